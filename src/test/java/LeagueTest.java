/** Promises 20, 21, 32 to 34, 37, 38, 48 and 49: gifts, leagues, LOANS and DUELS. */
public final class LeagueTest {
    private static final Check CHECK = new Check("LeagueTest");

    public static void main(String[] args) {
        gifts();
        leaves();
        breaks();
        lends();
        rounds();
        duels();
        CHECK.close();
    }

    private static SixStroke of(String lines, int... has) {
        StringBuilder b = new StringBuilder("town steps 20;" + lines);
        for (int n : has) {
            b.append(Check.person(n, "1 1 5 3 1", "work"));
        }
        return Check.town(b.toString());
    }

    private static void gifts() {
        SixStroke x = of("", 10, 7, 2);
        CHECK.due("2 to 1: 8, 9", x.gift(0, 1), 2);
        // 3 to 2: 7, 7, 5: two have the MOST
        CHECK.due("3 to 2", x.gift(0, 2), 3);
        CHECK.due("who would lose nothing gives nothing", x.gift(1, 0), 0);
        CHECK.due("to 1", x.gifts(0), 1);
        CHECK.due("to the first", x.gifts(1), 0);
        CHECK.due("one twice", x.gift(0, 0), -2);
        CHECK.due("nobody", x.gift(0, 3), -2);
        CHECK.due("nobody", x.gift(-1, 0), -2);
        CHECK.due("nobody", x.gifts(3), -2);
        CHECK.due("all stays", x.person(0, 0), 10);
        SixStroke even = of("", 10, 4, 4);
        CHECK.due("the first of several", even.gifts(0), 1);
        SixStroke two = of("law over 0 ties 4 goes well;", 0, 5);
        two.have(0, 1);
        two.have(1, 1);
        // 1, 1: both lose 1; 0, 2: he loses nothing
        CHECK.due("all that he HAS", two.gift(0, 1), 1);
        CHECK.due("alone", of("", 5).gifts(0), -1);
        SixStroke full = Check.town("town steps 20;" + Check.person(20, "1 1 5 3 1", "work") + Check.person(20, "1 1 5 3 1", "work"));
        full.hide(1, 20);
        CHECK.due("the other can show nothing: he gives all", full.gift(0, 1), 20);
        full.hide(0, 5);
        CHECK.due("what he hides he may keep", full.gift(0, 1), 15);
        SixStroke three = of("law over 0 ties 4 goes well;", 9, 3, 3);
        three.law(0, 4, 0, false);
        // 9 3 3: g 3: 6 6 3: two tie and both lose, ties 4; g 4: 5 7 3
        CHECK.due("a tie is not enough", three.gift(0, 1), 4);
        SixStroke none = of("law over 0 ties 4 goes well;", 20, 20);
        none.hide(1, 20);
        none.hide(0, 0);
        none.have(0, 0);
        CHECK.due("who has nothing loses nothing", none.gift(0, 1), 0);
    }

    private static void leaves() {
        SixStroke x = of("", 10, 7, 4);
        // both 10, of three: two have the MOST, neither loses; eating is worth 3, having 5
        CHECK.due("neither", x.leaves(0, 1), 0);
        CHECK.due("one twice", x.leaves(1, 1), -2);
        CHECK.due("nobody", x.leaves(0, 3), -2);
        x.law(0, 3, 0, false);
        // both 10 and 4: both lose 6 unless they eat or give
        CHECK.due("both", x.leaves(0, 1), 3);
        CHECK.due("all stays", x.person(1, 0), 7);
        // 1 and 2 both 7 below 10
        CHECK.due("below nobody leaves", x.leaves(1, 2), 0);
        x.law(0, 2, 0, false);
        x.sight(0, 1, 6);
        CHECK.due("the one sees 10 as 6", x.leaves(0, 1), 1);
        CHECK.due("and told the other way round", x.leaves(1, 0), 2);
        SixStroke uneven = of("law over 0 ties 3 goes well;", 10, 3, 8);
        CHECK.due("both at 10 would lose 2", uneven.leaves(0, 1), 3);
        CHECK.due("whoever of them has more", uneven.leaves(1, 0), 3);
        uneven.hide(1, 3);
        // 10 and 7 SHOWN of 10: the one alone loses
        CHECK.due("what is HIDDEN stays so", uneven.leaves(0, 1), 1);
    }

    private static void breaks() {
        SixStroke x = of("", 10, 10, 4);
        CHECK.due("the third gives 1 to 1: 10, 11", x.breaks(2, 1), 1);
        CHECK.due("and to 0", x.breaks(2, 0), 1);
        CHECK.due("0 gives 1 to 1: 9, 11", x.breaks(0, 1), 1);
        // 0 gives to 2: 10 - g, 10, 4 + g: 2 is the most from 7 on: 3, 10, 11
        CHECK.due("0 to 2", x.breaks(0, 2), 7);
        CHECK.due("the least over all", x.third(2), 1);
        CHECK.due("the least over all", x.third(0), 1);
        CHECK.due("one twice", x.breaks(0, 0), -2);
        CHECK.due("nobody", x.breaks(0, 3), -2);
        CHECK.due("nobody", x.third(3), -2);
        x.have(2, 0);
        CHECK.due("who has nothing breaks nothing", x.breaks(2, 1), -1);
        CHECK.due("none", x.third(2), -1);
        x.have(0, 11);
        CHECK.due("who loses already", x.breaks(2, 0), 0);
        CHECK.due("the least is 0", x.third(2), 0);
        x.have(0, 16);
        CHECK.due("who loses much already", x.breaks(2, 0), 0);
        CHECK.due("who loses nothing, far from it, gives 0", x.gift(2, 0), 0);
        CHECK.due("alone", of("", 5).third(0), -1);
        SixStroke full = of("", 20, 20, 9);
        CHECK.due("beyond steps is gone", full.breaks(2, 1), -1);
        CHECK.due("all stays", full.person(2, 0), 9);
    }

    private static void lends() {
        SixStroke x = of("", 10, 7, 20);
        CHECK.due("one twice", x.lend(0, 0, 1), -2);
        CHECK.due("nobody", x.lend(0, 3, 1), -2);
        CHECK.due("n 0", x.lend(0, 1, 0), -2);
        CHECK.due("n 31", x.lend(0, 1, 31), -2);
        CHECK.due("he has not so much", x.lend(0, 1, 11), -5);
        CHECK.due("more than steps", x.lend(0, 2, 1), -5);
        CHECK.due("no LOANS", x.count(5), 0);
        x.keep(0);
        x.have(2, 19);
        CHECK.due("just to steps", x.lend(0, 2, 1), 1);
        x.back(0);
        CHECK.due("all that he HAS", x.lend(0, 1, 10), 1);
        for (int i = 2; i <= 6; i++) {
            CHECK.due("LOAN " + i, x.lend(1, 0, 1), i);
        }
        CHECK.due("6 are there", x.lend(1, 0, 1), -3);
        CHECK.due("6 are there, though he has not so much", x.lend(1, 0, 30), -3);
        CHECK.due("none such, though 6 are there", x.lend(1, 1, 1), -2);
        CHECK.due("LOANS", x.count(5), 6);
        CHECK.due("HAS", x.person(0, 0), 5);
        x.run(1);
        CHECK.due("a DAY's STROKE brings them back", x.count(5), 0);
        SixStroke hidden = of("", 10, 7);
        hidden.hide(0, 6);
        hidden.lend(0, 1, 7);
        CHECK.due("who has less than is HIDDEN hides all", hidden.person(0, 1), 3);
    }

    private static void rounds() {
        SixStroke x = of("", 10, 7, 2);
        // 1: 9, 8; 2: 8, 9; 3: 7, 10; .. to 1 one of both has the MOST alone
        CHECK.due("none to 1", x.round(0, 1), -1);
        // 3 to 2: 7, 7, 5
        CHECK.due("3 to 2", x.round(0, 2), 3);
        CHECK.due("one twice", x.round(0, 0), -2);
        CHECK.due("nobody", x.round(3, 0), -2);
        x.have(1, 6);
        CHECK.due("2 to 1: 8, 8", x.round(0, 1), 2);
        CHECK.due("who loses nothing lends 1", x.round(2, 1), 1);
        x.have(0, 9);
        x.have(1, 9);
        CHECK.due("1 at least: 8, 9, 3 is 1's", x.round(0, 2), 1);
        for (int i = 0; i < 6; i++) {
            x.lend(0, 2, 1);
        }
        CHECK.due("LOANS there are aside", x.round(2, 0), 1);
        CHECK.due("all stays", x.count(5), 6);
        SixStroke all = Check.town("town steps 30;" + Check.person(30, "1 1 5 3 1", "work") + Check.person(0, "1 1 5 3 1", "work"));
        all.hide(0, 30);
        CHECK.due("whatever is lent, the other shows it alone", all.round(0, 1), -1);
        all.law(29, 2, 0, false);
        CHECK.due("over 29", all.round(0, 1), 1);
        all.law(0, 2, 0, false);
        all.hide(0, 0);
        CHECK.due("15 and 15", all.round(0, 1), 15);
        SixStroke full = of("law over 30 ties 2 goes well;", 3, 20);
        CHECK.due("more than steps", full.round(0, 1), -1);
        CHECK.due("he has so much", full.round(1, 0), 1);
        full.have(1, 0);
        CHECK.due("he has not so much", full.round(1, 0), -1);
    }

    private static void duels() {
        // 5, 5, ties 2, a third with 3; eating brings 3, having 5
        SixStroke x = of("", 5, 5, 3);
        // neither: 25, 25. one eats: 4 and 5 less 1: 20 + 3, 20. both: 4, 4: 23, 23
        // one eats while the other does not: 23 to 25: no. both: by not eating 5 at 4: 20: stays
        CHECK.due("neither, or both", x.duel(0, 1), 9);
        // A: the other by eating, if the one does not: 23 - 25 = -2; if he does: 23 - 20 = 3; B = -5: 4,000
        CHECK.due("4,000 of 10,000", x.mixed(0, 1), 4000);
        CHECK.due("the third's A: 5, 5, 2: -2, alike: B is 0", x.mixed(0, 2), -1);
        CHECK.due("one twice", x.duel(1, 1), -2);
        CHECK.due("nobody", x.duel(0, 3), -2);
        CHECK.due("one twice", x.mixed(1, 1), -2);
        CHECK.due("nobody", x.mixed(-1, 0), -2);
        CHECK.due("all stays", x.person(0, 0), 5);
        SixStroke none = of("", 0, 5, 5);
        // the one has nothing to eat: both his ACTS are alike; the other by eating has 20 + 3 to 25
        CHECK.due("who has none eats nothing", none.duel(0, 1), 3);
        CHECK.due("told the other way round", none.duel(1, 0), 5);
        SixStroke eater = Check.town("town steps 20;law over 30 ties 2 goes well;" + Check.person(5, "0 0 1 9 0", "work")
                + Check.person(5, "0 0 1 0 0", "work"));
        CHECK.due("the one eats", eater.duel(0, 1), 2);
        CHECK.due("the other eats", eater.duel(1, 0), 4);
        CHECK.due("B is 0", eater.mixed(0, 1), -1);
        // on what all HAVE and HIDE: the other hides 3 of 5: the one shows the MOST by 3
        SixStroke hidden = of("found 100;", 5, 5);
        hidden.hide(1, 3);
        hidden.sight(0, 1, 30);
        hidden.sight(1, 0, 30);
        // neither: 2 (10), 5 (25). one eats: 2 (10 + 3). so he eats; the other not: 1 SHOWN, 4 (20 + 3)
        CHECK.due("hidden", hidden.duel(0, 1), 2);
        hidden.lend(0, 1, 1);
        // 4, 6 (3 HIDDEN, 3 SHOWN): neither: 3 (15), 6 (30); one eats: 3, 3: 15 + 3, 30; then the other: 2: 5 SHOWN: 28
        CHECK.due("without LOANS, nobody found", hidden.duel(0, 1), 2);
        SixStroke out = Check.town("town steps 20;" + Check.person(5, "0 0 5 3 0", "work") + Check.person(5, "0 0 5 9 0", "work")
                + Check.person(3, "0 0 1 1 1", "work"));
        // the other: A: 20 + 9 - 25 = 4; if the one eats: 29 - 20 = 9; B = -5: -8,000
        CHECK.due("not 0 .. 10,000", out.mixed(0, 1), -1);
        CHECK.due("told the other way round: A -2, B -5", out.mixed(1, 0), 4000);
        CHECK.due("the other always eats, then the one", out.duel(0, 1), 8);
        SixStroke unlike = Check.town("town steps 20;" + Check.person(5, "0 0 5 3 0", "work") + Check.person(5, "0 0 4 2 0", "work")
                + Check.person(3, "0 0 1 1 1", "work"));
        // the other: A: 16 + 2 - 20 = -2; if the one eats: 18 - 16 = 2; B = -4
        CHECK.due("by what is worth to the other alone", unlike.mixed(0, 1), 5000);
        CHECK.due("told the other way round: A -2, B -5", unlike.mixed(1, 0), 4000);
        SixStroke zero = Check.town("town steps 20;" + Check.person(5, "0 0 5 3 0", "work") + Check.person(5, "0 0 5 5 0", "work")
                + Check.person(3, "0 0 1 1 1", "work"));
        // A: 20 + 5 - 25 = 0; if the one eats: 25 - 20 = 5; B = -5
        CHECK.due("none of 10,000", zero.mixed(0, 1), 0);
        SixStroke all = Check.town("town steps 20;" + Check.person(5, "0 0 5 3 0", "work") + Check.person(5, "0 0 5 0 0", "work")
                + Check.person(3, "0 0 1 1 1", "work"));
        // A: 20 - 25 = -5; if the one eats: 20 - 20 = 0; B = -5
        CHECK.due("all of 10,000", all.mixed(0, 1), 10000);
        // the other hides all of 3 and eats one: 0 SHOWN all the same, raised to 4 either way
        SixStroke raised = Check.town("town steps 20;" + Check.person(4, "0 0 5 0 0", "work") + Check.person(3, "0 0 5 3 0", "work")
                + Check.person(20, "0 0 1 1 1", "work"));
        raised.stroke();
        raised.law(30, 2, 0, true);
        raised.hide(1, 3);
        // WELL 16; neither: 3 + 4, 35; the other eats: 2 + 4, 30 + 3
        CHECK.due("neither", raised.duel(0, 1), 1);
    }
}
