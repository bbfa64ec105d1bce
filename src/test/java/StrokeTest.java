/** Promises 6 to 14, 30, 47 and 50: people, what is SEEN, and the STROKE. */
public final class StrokeTest {
    private static final Check CHECK = new Check("StrokeTest");

    public static void main(String[] args) {
        people();
        seen();
        most();
        ties();
        goesToWell();
        shared();
        burnt();
        least();
        found();
        loansComeBack();
        lawsFromNowOn();
        opened();
        CHECK.close();
    }

    /** A TOWN of 20 steps whose people have so much and only work. */
    private static SixStroke of(String lines, int... has) {
        StringBuilder b = new StringBuilder("town steps 20;" + lines);
        for (int n : has) {
            b.append(Check.person(n, "1 1 1 1 1", "work"));
        }
        return Check.town(b.toString());
    }

    private static void has(String what, SixStroke x, int... want) {
        for (int p = 0; p < want.length; p++) {
            CHECK.due(what + ": HAS of " + p, x.person(p, 0), want[p]);
        }
    }

    private static void people() {
        SixStroke x = of("", 10, 7);
        CHECK.due("person -1", x.person(-1, 0), -2);
        CHECK.due("person 2", x.person(2, 0), -2);
        CHECK.due("what -1", x.person(0, -1), -2);
        CHECK.due("what 4", x.person(0, 4), -2);
        CHECK.due("HAS", x.person(0, 0), 10);
        CHECK.due("WAY", x.person(0, 2), 4);
        CHECK.due("have", x.have(0, 20), 10);
        CHECK.due("have again", x.have(0, 0), 20);
        CHECK.due("have beyond steps", x.have(0, 21), -2);
        CHECK.due("have below 0", x.have(0, -1), -2);
        CHECK.due("have of nobody", x.have(2, 1), -2);
        CHECK.due("nothing happened", x.person(0, 0), 0);
        CHECK.due("hide", x.hide(1, 4), 4);
        CHECK.due("HIDDEN", x.person(1, 1), 4);
        CHECK.due("hide more than he HAS", x.hide(1, 30), 7);
        CHECK.due("hide 31", x.hide(1, 31), -2);
        CHECK.due("hide -1", x.hide(1, -1), -2);
        CHECK.due("hide of nobody", x.hide(-1, 1), -2);
        CHECK.due("HIDDEN stays", x.person(1, 1), 7);
        x.have(1, 3);
        CHECK.due("who has less than is HIDDEN hides all", x.person(1, 1), 3);
        x.have(1, 9);
        CHECK.due("what comes is not HIDDEN", x.person(1, 1), 3);
        CHECK.due("hide nothing", x.hide(1, 0), 0);
    }

    private static void seen() {
        SixStroke x = of("", 10, 7, 13);
        CHECK.due("just as it is", x.seen(0, 1), 7);
        CHECK.due("oneself", x.seen(1, 1), -2);
        CHECK.due("nobody", x.seen(0, 3), -2);
        CHECK.due("nobody", x.seen(-1, 0), -2);
        CHECK.due("sight", x.sight(0, 1, 5), 1);
        CHECK.due("down to a multiple", x.seen(0, 1), 5);
        CHECK.due("the other way round", x.seen(1, 0), 10);
        CHECK.due("another sees as before", x.seen(2, 1), 7);
        CHECK.due("sight 30", x.sight(0, 1, 30), 5);
        CHECK.due("nothing is seen", x.seen(0, 1), 0);
        CHECK.due("sight 31", x.sight(0, 1, 31), -2);
        CHECK.due("sight 0", x.sight(0, 1, 0), -2);
        CHECK.due("sight of oneself", x.sight(0, 0, 2), -2);
        CHECK.due("sight of nobody", x.sight(0, 3, 2), -2);
        CHECK.due("sight stays", x.sight(0, 1, 4), 30);
        x.hide(2, 6);
        CHECK.due("what is HIDDEN is not seen", x.seen(1, 2), 7);
        x.sight(1, 2, 2);
        CHECK.due("SHOWN, then down", x.seen(1, 2), 6);
    }

    private static void most() {
        SixStroke nobody = Check.town("town steps 20;");
        CHECK.due("tops of nobody", nobody.tops(), -2);
        CHECK.due("next of nobody", nobody.next(), -2);
        CHECK.due("stroke of nobody", nobody.stroke(), -2);
        SixStroke x = of("", 10, 7, 10, 4);
        CHECK.due("tops", x.tops(), 5);
        CHECK.due("next", x.next(), 7);
        x.hide(0, 4);
        CHECK.due("what is HIDDEN does not count", x.tops(), 4);
        CHECK.due("next", x.next(), 7);
        x.hide(0, 0);
        x.have(1, 10);
        x.have(3, 10);
        CHECK.due("all", x.tops(), 15);
        CHECK.due("nobody has less", x.next(), 0);
        SixStroke none = of("", 0, 0);
        CHECK.due("nobody has anything", none.tops(), 3);
        CHECK.due("next", none.next(), 0);
        none.have(0, 9);
        none.have(1, 4);
        CHECK.due("next by what is now", none.next(), 4);
        none.have(0, 0);
        none.have(1, 0);
        CHECK.due("none loses", none.stroke(), 0);
    }

    private static void ties() {
        SixStroke x = of("", 10, 7, 4);
        CHECK.due("what MOST is above NEXT", x.loses(0), 3);
        CHECK.due("who has not the MOST", x.loses(1), 0);
        CHECK.due("nobody", x.loses(3), -2);
        CHECK.due("nobody", x.loses(-1), -2);
        x.have(1, 10);
        CHECK.due("two are not fewer than ties", x.loses(0), 0);
        x.law(0, 3, 0, false);
        CHECK.due("two are fewer than 3", x.loses(0), 6);
        CHECK.due("both", x.loses(1), 6);
        x.law(5, 3, 0, false);
        CHECK.due("over", x.loses(1), 1);
        x.law(7, 3, 0, false);
        CHECK.due("0 at least", x.loses(1), 0);
        x.law(1, 4, 0, false);
        x.have(2, 10);
        CHECK.due("all three, NEXT is 0", x.loses(2), 9);
        CHECK.due("LOST together", x.stroke(), 27);
        has("all three", x, 1, 1, 1);
        CHECK.due("WELL", x.count(4), 27);
        SixStroke one = of("law over 3 ties 2 goes well;", 8);
        CHECK.due("one alone", one.stroke(), 5);
        has("one alone", one, 3);
    }

    private static void goesToWell() {
        SixStroke x = of("", 10, 7, 4);
        CHECK.due("stroke", x.stroke(), 3);
        has("stroke", x, 7, 7, 4);
        CHECK.due("WELL", x.count(4), 3);
        CHECK.due("nobody loses then", x.stroke(), 0);
        CHECK.due("a STROKE is no DAY", x.count(6), 0);
        CHECK.due("and no GOOD", x.person(0, 3), 0);
        x.have(0, 20);
        x.hide(0, 5);
        CHECK.due("of what is SHOWN", x.stroke(), 8);
        has("of what is SHOWN", x, 12, 7, 4);
        CHECK.due("HIDDEN stays", x.person(0, 1), 5);
        CHECK.due("WELL", x.count(4), 11);
        // a DAY: 13 of which 5 HIDDEN, 8, 5: nobody loses
        x.run(1);
        CHECK.due("WELL", x.count(4), 11);
        x.open();
        x.have(0, 20);
        CHECK.due("15 SHOWN, 11, 8", x.stroke(), 4);
        CHECK.due("the WELL had 2", x.count(4), 6);
    }

    private static void shared() {
        SixStroke x = of("law over 0 ties 2 goes shared;", 15, 8, 8, 1);
        CHECK.due("lost", x.stroke(), 7);
        has("shared", x, 8, 10, 10, 3);
        CHECK.due("the rest goes to the WELL", x.count(4), 1);
        SixStroke all = of("law over 0 ties 4 goes shared;", 5, 5);
        CHECK.due("both lose", all.stroke(), 10);
        CHECK.due("there are no others", all.count(4), 10);
        SixStroke full = of("law over 0 ties 2 goes shared;", 20, 9, 20);
        full.hide(2, 15);
        CHECK.due("lost", full.stroke(), 11);
        has("what comes beyond steps is gone", full, 9, 14, 20);
        CHECK.due("WELL", full.count(4), 1);
    }

    private static void burnt() {
        SixStroke x = of("law over 1 ties 2 goes burnt;", 15, 8);
        CHECK.due("lost", x.stroke(), 6);
        has("burnt", x, 9, 8);
        CHECK.due("WELL", x.count(4), 0);
    }

    private static void least() {
        SixStroke x = of("law over 0 ties 2 goes well least;", 15, 8, 3);
        CHECK.due("lost", x.stroke(), 7);
        has("the one with the least gets up to the next", x, 8, 8, 8);
        CHECK.due("WELL", x.count(4), 2);
        SixStroke little = of("law over 0 ties 2 goes well least;", 10, 8, 3);
        little.stroke();
        has("as far as the WELL has", little, 8, 8, 5);
        CHECK.due("WELL", little.count(4), 0);
        SixStroke two = of("law over 0 ties 2 goes well least;", 15, 8, 3, 3);
        two.stroke();
        has("two have the least", two, 8, 8, 3, 3);
        SixStroke alike = of("law over 0 ties 4 goes well least;", 5, 5);
        alike.stroke();
        has("nobody has more", alike, 0, 0);
        CHECK.due("WELL", alike.count(4), 10);
        SixStroke hidden = of("law over 0 ties 2 goes well least;", 20, 9, 18);
        hidden.hide(2, 18);
        hidden.stroke();
        has("beyond steps is gone", hidden, 9, 9, 20);
        CHECK.due("the WELL gave it all the same", hidden.count(4), 2);
        SixStroke shared = of("law over 0 ties 2 goes shared least;", 17, 9, 2);
        shared.stroke();
        has("behind what was shared: 9, 13, 6", shared, 9, 13, 6);
        CHECK.due("the WELL was empty", shared.count(4), 0);
    }

    private static void found() {
        SixStroke x = of("found 100;", 10, 10, 10);
        x.hide(0, 3);
        x.hide(2, 4);
        CHECK.due("SHOWN 7, 10, 6: what is found is not LOST", x.stroke(), 3);
        has("found", x, 7, 7, 6);
        CHECK.due("WELL", x.count(4), 3 + 3 + 4);
        CHECK.due("nothing HIDDEN", x.person(2, 1), 0);
        // DRAWS from 0: 12345 / 65536 = 0; then (1103515245 * 12345 + 12345) mod 2^31 / 65536 mod 100
        long second = (1103515245L * 12345 + 12345) % 2147483648L / 65536 % 100;
        SixStroke two = of("found " + second + ";", 10, 10);
        two.hide(0, 3);
        two.hide(1, 3);
        two.stroke();
        CHECK.due("0 is below " + second, two.person(0, 1), 0);
        CHECK.due(second + " is not below itself", two.person(1, 1), 3);
        SixStroke above = of("found " + (second + 1) + ";", 10, 10);
        above.hide(0, 3);
        above.hide(1, 3);
        above.stroke();
        CHECK.due(second + " is below one more", above.person(1, 1), 0);
        SixStroke one = of("found " + second + ";", 10, 10);
        one.hide(1, 1);
        one.stroke();
        CHECK.due("who hides nothing takes no DRAW", one.person(1, 1), 0);
        one.hide(1, 1);
        one.stroke();
        CHECK.due("the second DRAW", one.person(1, 1), 1);
        CHECK.due("seed", one.seed(12345), 0);
        SixStroke seeded = of("found " + second + ";", 10, 10);
        seeded.seed(12345);
        seeded.hide(0, 3);
        seeded.stroke();
        CHECK.due("the seed is x: the DRAW is the second of 0's", seeded.person(0, 1), 3);
        CHECK.due("seed -1", seeded.seed(-1), -2);
        CHECK.due("seed beyond", seeded.seed(2_000_000_001), -2);
        CHECK.due("seed 2,000,000,000", seeded.seed(2_000_000_000), 0);
        CHECK.due("seed without a TOWN", new SixStroke().seed(0), 0);
        SixStroke never = of("", 10, 10);
        never.hide(0, 3);
        never.stroke();
        CHECK.due("found 0", never.person(0, 1), 3);
    }

    private static void loansComeBack() {
        SixStroke x = of("", 10, 7, 4);
        CHECK.due("lend", x.lend(0, 1, 2), 1);
        has("it goes over", x, 8, 9, 4);
        CHECK.due("who borrowed loses", x.stroke(), 1);
        has("it comes back", x, 10, 6, 4);
        CHECK.due("no LOANS then", x.count(5), 0);
        x.stroke();
        has("once", x, 6, 6, 4);
        SixStroke poor = of("", 10, 7, 4);
        poor.lend(0, 2, 6);
        poor.act(2, 0, 8, 0, -1);
        poor.stroke();
        has("or all that he HAS", poor, 6, 4, 0);
        SixStroke chain = of("", 5, 5, 5);
        chain.lend(0, 1, 5);
        chain.lend(1, 2, 10);
        chain.act(2, 0, 12, 0, -1);
        chain.stroke();
        has("one behind the other: 1 has nothing when 0 gets back", chain, 0, 0, 0);
        SixStroke order = of("law over 0 ties 2 goes burnt;", 6, 6, 6);
        order.lend(1, 2, 6);
        order.lend(0, 1, 6);
        // SHOWN 0, 6, 12: 2 loses 6, has 6, gives it back to 1, who gives 6 to 0
        CHECK.due("lost", order.stroke(), 6);
        has("in the order of lending", order, 6, 6, 0);
        SixStroke full = of("law over 30 ties 2 goes well;", 20, 1);
        full.lend(0, 1, 3);
        full.have(0, 19);
        full.stroke();
        has("beyond steps is gone", full, 20, 1);
    }

    private static void lawsFromNowOn() {
        SixStroke x = of("", 10, 7);
        CHECK.due("law", x.law(30, 4, 2, true), 0);
        int[] want = {30, 4, 2, 1};
        for (int i = 0; i < 4; i++) {
            CHECK.due("count " + (7 + i), x.count(7 + i), want[i]);
        }
        CHECK.due("over -1", x.law(-1, 2, 0, false), -2);
        CHECK.due("over 31", x.law(31, 2, 0, false), -2);
        CHECK.due("ties 1", x.law(0, 1, 0, false), -2);
        CHECK.due("ties 5", x.law(0, 5, 0, false), -2);
        CHECK.due("goes -1", x.law(0, 2, -1, false), -2);
        CHECK.due("goes 3", x.law(0, 2, 3, false), -2);
        CHECK.due("nothing happened", x.count(7), 30);
        CHECK.due("without a TOWN", new SixStroke().law(0, 2, 0, false), -2);
        CHECK.due("a TOWN of nobody has a law", Check.town("town steps 5;").law(0, 3, 0, false), 0);
        CHECK.due("LINES stay", x.count(2), 3);
    }

    private static void opened() {
        CHECK.due("nobody", Check.town("town steps 5;").open(), -2);
        SixStroke x = of("", 20, 9, 9, 19);
        x.stroke();
        x.have(0, 9);
        x.stroke();
        CHECK.due("WELL", x.count(4), 11);
        has("before", x, 9, 9, 9, 9);
        CHECK.due("each gets", x.open(), 2);
        has("opened", x, 11, 11, 11, 11);
        CHECK.due("the rest stays in it", x.count(4), 3);
        CHECK.due("too little", x.open(), 0);
        CHECK.due("it stays", x.count(4), 3);
        SixStroke full = of("", 20, 10);
        full.stroke();
        full.have(0, 18);
        CHECK.due("each gets", full.open(), 5);
        has("beyond steps is gone", full, 20, 15);
        CHECK.due("WELL", full.count(4), 0);
    }
}
