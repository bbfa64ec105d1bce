/** Promises 17, 24 to 29, 31 and 41 to 46: DAYS by WAYS, gone through and thought of. */
public final class DaysTest {
    private static final Check CHECK = new Check("DaysTest");

    public static void main(String[] args) {
        days();
        eats();
        matches();
        leagues();
        hides();
        doesBest();
        totals();
        turns();
        idles();
        spreads();
        besides();
        lawsByTies();
        paysAndQuiet();
        againAndAlike();
        followsRow();
        plans();
        eightPeople();
        CHECK.close();
    }

    private static void has(String what, SixStroke x, int... want) {
        for (int p = 0; p < want.length; p++) {
            CHECK.due(what + ": HAS of " + p, x.person(p, 0), want[p]);
        }
    }

    private static void days() {
        CHECK.due("nobody", Check.town("town steps 5;").run(1), -2);
        SixStroke x = Check.town("town steps 20;" + Check.person(10, "3 2 5 8 3", "work") + Check.person(7, "2 1 4 1 1", "work")
                + Check.person(4, "1 0 3 1 1", "work"));
        CHECK.due("n 0", x.run(0), -2);
        CHECK.due("n 31", x.run(31), -2);
        CHECK.due("no DAY", x.count(6), 0);
        CHECK.due("13, 9, 5: lost", x.run(1), 4);
        has("a DAY", x, 9, 9, 5);
        CHECK.due("GOOD is 9 times 5 less 2", x.person(0, 3), 43);
        CHECK.due("GOOD is 9 times 4 less 1", x.person(1, 3), 35);
        CHECK.due("GOOD is 5 times 3", x.person(2, 3), 15);
        CHECK.due("WELL", x.count(4), 4);
        CHECK.due("DAYS gone", x.count(6), 1);
        // 12, 11, 6: 1 lost; 14, 13, 7: 1; 16, 15, 8: 1
        CHECK.due("lost in three DAYS", x.run(3), 3);
        has("four DAYS", x, 15, 15, 8);
        CHECK.due("DAYS gone", x.count(6), 4);
        CHECK.due("30 DAYS", x.run(30), x.count(4) - 7);
        CHECK.due("DAYS gone", x.count(6), 34);
    }

    private static void eats() {
        SixStroke x = Check.town("town steps 20;" + Check.person(10, "3 2 5 8 3", "eat") + Check.person(7, "2 1 4 1 1", "work"));
        CHECK.due("he stays below", x.run(1), 2);
        // 13 eats 6 (8 + 5 + 2) down to 7; then the other has 9 and loses 2
        has("eat", x, 7, 7);
        CHECK.due("GOOD", x.person(0, 3), 35 + 15 - 2);
        x.hide(1, 3);
        x.sight(0, 1, 3);
        x.run(1);
        // he has 10 and sees 3 of 4: eats 7; the other has 9, shows 6: loses 3
        has("by what he SEES", x, 3, 6);
        SixStroke hidden = Check.town("town steps 20;" + Check.person(5, "3 2 5 8 3", "eat") + Check.person(0, "0 1 4 1 1", "work"));
        hidden.hide(0, 4);
        hidden.run(1);
        has("what is HIDDEN is not eaten", hidden, 4, 0);
        SixStroke below = Check.town("town steps 20;" + Check.person(5, "3 2 5 8 3", "eat") + Check.person(9, "0 1 4 1 1", "work"));
        below.run(1);
        has("who is below eats nothing", below, 8, 8);
        SixStroke alone = Check.town("town steps 20;" + Check.person(5, "3 2 5 8 3", "eat"));
        CHECK.due("alone he eats all", alone.run(1), 0);
        CHECK.due("GOOD", alone.person(0, 3), 13);
    }

    private static void matches() {
        SixStroke x = Check.town("town steps 20;" + Check.person(10, "3 2 5 8 3", "match") + Check.person(4, "0 1 4 1 1", "work")
                + Check.person(8, "0 0 3 1 1", "work") + Check.person(8, "0 0 3 1 1", "work"));
        // 13 is 5 above 8: gives 2 to the first with 8: 11, 4, 10, 8
        CHECK.due("lost", x.run(1), 1);
        has("match", x, 10, 4, 10, 8);
        SixStroke blurred = Check.town("town steps 20;" + Check.person(10, "0 2 5 8 3", "match") + Check.person(4, "0 1 4 1 1", "work")
                + Check.person(5, "0 0 3 1 1", "work") + "sees 0 1 within 4; sees 0 2 within 4;");
        // both are seen with 4: 3 go to the first
        blurred.run(1);
        has("the first he SEES with TOP", blurred, 7, 7, 5);
        SixStroke back = Check.town("town steps 20;" + Check.person(4, "0 1 4 1 1", "work") + Check.person(10, "0 2 5 8 3", "match"));
        back.run(1);
        has("to the first", back, 7, 7);
        SixStroke alone = Check.town("town steps 20;" + Check.person(5, "3 2 5 8 3", "match"));
        CHECK.due("alone he gives nothing and loses all", alone.run(1), 8);
        SixStroke full = Check.town("town steps 10;" + Check.person(10, "0 2 5 8 3", "match") + Check.person(10, "0 1 4 1 1", "hide 5"));
        full.hide(1, 9);
        // 10 shows 9 more than 1: gives 4; the other has 10 of 10: gone
        full.run(1);
        has("what comes beyond steps is gone", full, 5, 10);
    }

    private static void leagues() {
        String man = Check.person(4, "0 1 4 1 1", "work");
        SixStroke x = Check.town("town steps 20;" + man + Check.person(10, "3 2 5 8 3", "league 0") + man);
        // 13 and 4: gives 4: 8, 9, 4
        CHECK.due("lost", x.run(1), 1);
        has("league", x, 8, 8, 4);
        SixStroke self = Check.town("town steps 20;" + man + Check.person(10, "3 2 5 8 3", "league 1"));
        self.run(1);
        has("with himself", self, 4, 4);
        SixStroke untold = Check.town("town steps 20;law over 30 ties 2 goes well;" + man + Check.person(10, "3 2 5 8 3", "league 2"));
        untold.run(1);
        has("with one who is not told", untold, 4, 13);
        SixStroke last = Check.town("town steps 20;law over 30 ties 2 goes well;" + man + Check.person(10, "3 2 5 8 3", "league 7"));
        last.run(1);
        has("with the eighth", last, 4, 13);
        SixStroke more = Check.town("town steps 20;law over 30 ties 2 goes well;" + Check.person(15, "0 1 4 1 1", "work")
                + Check.person(10, "3 2 5 8 3", "league 0"));
        more.run(1);
        has("with one who has more", more, 15, 13);
        SixStroke blind = Check.town("town steps 20;law over 30 ties 2 goes well;" + man + Check.person(10, "0 2 5 8 3", "league 0")
                + "sees 1 0 within 30;");
        blind.hide(0, 2);
        blind.run(1);
        has("by what is SHOWN: 2, of 8 half", blind, 8, 6);
    }

    private static void hides() {
        SixStroke x = Check.town("town steps 20;" + Check.person(10, "3 2 5 8 3", "hide 4") + Check.person(5, "0 1 4 1 1", "work"));
        // 13, 9 SHOWN, 5: loses 4
        CHECK.due("lost", x.run(1), 4);
        has("hide", x, 9, 5);
        CHECK.due("HIDDEN", x.person(0, 1), 4);
        CHECK.due("GOOD is of all he HAS", x.person(0, 3), 43);
        SixStroke all = Check.town("town steps 20;" + Check.person(1, "3 2 5 8 3", "hide 30") + Check.person(0, "0 1 4 1 1", "work"));
        CHECK.due("all he HAS", all.run(1), 0);
        CHECK.due("HIDDEN", all.person(0, 1), 4);
        SixStroke found = Check.town("town steps 20;found 100;" + Check.person(10, "3 2 5 8 3", "hide 4") + Check.person(5, "0 1 4 1 1", "work"));
        CHECK.due("what is found is not LOST", found.run(1), 4);
        has("found", found, 5, 5);
        CHECK.due("GOOD behind the STROKE", found.person(0, 3), 23);
        CHECK.due("WELL", found.count(4), 8);
        SixStroke less = Check.town("town steps 20;" + Check.person(10, "3 2 5 8 3", "hide 2") + Check.person(20, "0 1 4 1 1", "work"));
        less.hide(0, 9);
        less.run(1);
        CHECK.due("hides N, no more", less.person(0, 1), 2);
    }

    private static void doesBest() {
        // as in ActTest: works, eats 2, gives 2 to 1: 9, 9, 2
        SixStroke x = Check.town("town steps 20;" + Check.person(10, "3 2 5 8 3", "best") + Check.person(7, "0 1 1 1 1", "work")
                + Check.person(2, "1 1 1 1 1", "work"));
        CHECK.due("lost", x.run(1), 0);
        has("best", x, 9, 9, 3);
        CHECK.due("GOOD", x.person(0, 3), 56);
        // one by one: the second sees what the first has done
        SixStroke two = Check.town("town steps 20;" + Check.person(4, "6 0 5 0 0", "work") + Check.person(10, "0 1 5 0 0", "best"));
        CHECK.due("10 against 10: nothing to give", two.run(1), 0);
        has("by what is then", two, 10, 10);
        SixStroke turned = Check.town("town steps 20;" + Check.person(10, "0 1 5 0 0", "best") + Check.person(4, "6 0 5 0 0", "work"));
        turned.run(1);
        // 10 sees 4, gives 3: 7; the other has 7 and gets 6: 13, loses 6
        has("the first by what was", turned, 7, 7);
        SixStroke blurred = Check.town("town steps 20;" + Check.person(9, "0 0 5 0 0", "work") + Check.person(10, "0 1 5 0 0", "best")
                + "sees 1 0 within 10;");
        // 9 is seen as 0: gives 5; then 14 loses 9
        CHECK.due("lost", blurred.run(1), 9);
        has("by what he SEES", blurred, 5, 5);
    }

    private static void totals() {
        SixStroke x = Check.town("town steps 20;" + Check.person(10, "3 2 5 8 3", "hide 4") + Check.person(5, "0 1 4 1 1", "league 1"));
        CHECK.due("eat: 13 to 5, 8 + 5 + 2", x.total(0, 0, 1), 25 + 15 - 2);
        CHECK.due("match: gives 4: 9, 9", x.total(0, 1, 1), 43);
        CHECK.due("league 0 is himself: loses 8", x.total(0, 2, 1), 23);
        CHECK.due("hide 4: loses 4", x.total(0, 3, 1), 43);
        CHECK.due("work: loses 8", x.total(0, 4, 1), 23);
        CHECK.due("best: eats 2 (13), gives 3: 8, 8", x.total(0, 5, 1), 40 + 13 - 2);
        CHECK.due("hide 3 for who has no N", x.total(1, 3, 1), 19);
        x.hide(1, 5);
        CHECK.due("all stays", x.person(0, 0), 10);
        x.hide(1, 0);
        CHECK.due("no DAY", x.count(6), 0);
        CHECK.due("two DAYS of work: 13 to 5, 8 to 5", x.total(0, 4, 2), 46);
        x.act(0, 1, 3, 0, -1);
        CHECK.due("GOOD there is does not count", x.total(0, 4, 2), 46);
        x.have(0, 10);
        CHECK.due("person 2", x.total(2, 0, 1), Check.NOTHING);
        CHECK.due("WAY 6", x.total(0, 6, 1), Check.NOTHING);
        CHECK.due("WAY -1", x.total(0, -1, 1), Check.NOTHING);
        CHECK.due("n 0", x.total(0, 0, 0), Check.NOTHING);
        CHECK.due("n 31", x.total(0, 0, 31), Check.NOTHING);
        CHECK.due("best of all", x.way(0, 1), 5);
        CHECK.due("way of nobody", x.way(2, 1), -2);
        CHECK.due("way n 0", x.way(0, 0), -2);
        CHECK.due("way n 31", x.way(0, 31), -2);
        SixStroke poor = Check.town("town steps 20;law over 30 ties 2 goes well;" + Check.person(1, "1 0 5 0 0", "work") + Check.person(9, "0 1 4 1 1", "work"));
        CHECK.due("all alike: the first", poor.way(0, 2), 0);
        SixStroke friend = Check.town("town steps 20;" + Check.person(0, "0 0 0 0 0", "work") + Check.person(0, "0 0 0 0 0", "work")
                + Check.person(9, "0 0 1 0 0", "league 1") + Check.person(9, "0 0 1 0 0", "eat"));
        friend.turnsTo(3, 2);
        friend.run(1);
        // 2 gives 4 to 1, 3 gives 4 to 0: 4, 4, 5, 5
        has("the P told for his own, else 0", friend, 4, 4, 5, 5);
    }

    private static void turns() {
        SixStroke x = Check.town("town steps 20;law over 30 ties 2 goes well;" + Check.person(10, "1 2 5 8 3", "hide 7")
                + Check.person(5, "0 1 4 1 1", "eat"));
        CHECK.due("to the same", x.turnsTo(0, 3), 3);
        x.run(1);
        CHECK.due("his own N", x.person(0, 1), 7);
        CHECK.due("to another", x.turnsTo(1, 3), 0);
        CHECK.due("WAY", x.person(1, 2), 3);
        x.run(1);
        CHECK.due("N 3", x.person(1, 1), 3);
        CHECK.due("person 2", x.turnsTo(2, 0), -2);
        CHECK.due("WAY 6", x.turnsTo(0, 6), -2);
        CHECK.due("WAY -1", x.turnsTo(0, -1), -2);
        x.turnsTo(0, 4);
        CHECK.due("back to hide", x.turnsTo(0, 3), 4);
        x.run(1);
        CHECK.due("his own was work, so N is 3", x.person(0, 1), 3);
    }

    private static void idles() {
        CHECK.due("nobody", Check.town("town steps 5;").idle(1), -2);
        SixStroke x = Check.town("town steps 20;" + Check.person(3, "1 50 5 4 0", "best") + Check.person(7, "1 1 1 1 1", "work")
                + Check.person(2, "1 50 5 4 0", "best"));
        CHECK.due("n 0", x.idle(0), -2);
        CHECK.due("n 31", x.idle(31), -2);
        CHECK.due("two rest each DAY", x.idle(3), 6);
        CHECK.due("all stays", x.count(6), 0);
        CHECK.due("30 DAYS", x.idle(30), 60);
        x.turnsTo(0, 4);
        CHECK.due("one rests", x.idle(3), 3);
        SixStroke busy = Check.town("town steps 20;law over 30 ties 2 goes well;" + Check.person(3, "1 1 5 0 0", "best") + Check.person(9, "0 1 1 1 1", "work"));
        CHECK.due("who works is not idle", busy.idle(3), 0);
        // 8 at 7 would be 7 and tire him
        SixStroke lawful = Check.town("town steps 20;" + Check.person(7, "1 2 5 0 0", "best") + Check.person(7, "0 1 1 1 1", "work"));
        CHECK.due("with the law he rests", lawful.idle(2), 2);
    }

    private static void spreads() {
        SixStroke x = Check.town("town steps 20;" + Check.person(3, "1 50 5 4 0", "best") + Check.person(7, "1 1 1 1 1", "work")
                + Check.person(2, "1 50 5 4 0", "best"));
        CHECK.due("4 + 1 + 5", x.spread(), 10);
        x.hide(1, 7);
        CHECK.due("of what they HAVE", x.spread(), 10);
        CHECK.due("nobody", new SixStroke().spread(), 0);
    }

    private static void besides() {
        CHECK.due("nobody", Check.town("town steps 5;").beside(1, 0), Check.NOTHING);
        SixStroke x = Check.town("town steps 20;found 100;" + Check.person(10, "3 2 5 8 3", "best") + Check.person(7, "0 1 4 1 1", "hide 2"));
        // with: 13 eats 2, gives 2: 9, 9 (2 HIDDEN): shows 9, 7: loses 2, 2 found: 7, 7
        CHECK.due("SPREAD with the law", x.beside(1, 0), 0);
        // without: eats 1 (8 is more than 5): 12; 7
        CHECK.due("SPREAD without", x.beside(1, 1), 5);
        CHECK.due("LOST with it", x.beside(1, 2), 2);
        CHECK.due("GOOD with it: 35 + 13 - 2 and 28 - 1", x.beside(1, 3), 46 + 27);
        CHECK.due("GOOD without: 60 + 8 - 2 and 28 - 1", x.beside(1, 4), 66 + 27);
        CHECK.due("what 5", x.beside(1, 5), Check.NOTHING);
        CHECK.due("what -1", x.beside(1, -1), Check.NOTHING);
        CHECK.due("n 0", x.beside(0, 0), Check.NOTHING);
        CHECK.due("n 31", x.beside(31, 0), Check.NOTHING);
        CHECK.due("all stays", x.person(0, 0) * 100 + x.count(6), 1000);
        x.run(1);
        int good = x.person(0, 3) + x.person(1, 3);
        CHECK.due("GOOD more, not all", x.beside(1, 3) + good, goodOfTwo(x));
        CHECK.due("all stays", x.count(6), 1);
        SixStroke lent = Check.town("town steps 20;" + Check.person(10, "0 2 5 8 3", "work") + Check.person(7, "0 1 4 1 1", "work"));
        lent.lend(0, 1, 1);
        CHECK.due("9, 8: without STROKES LOANS stay", lent.beside(1, 1), 1);
        CHECK.due("8, 8, then 9, 7", lent.beside(1, 0), 2);
    }

    private static int goodOfTwo(SixStroke x) {
        x.keep(0);
        x.run(1);
        int sum = x.person(0, 3) + x.person(1, 3);
        x.back(0);
        return sum;
    }

    private static void lawsByTies() {
        CHECK.due("nobody", Check.town("town steps 5;").laws(1), -2);
        String tail = Check.person(10, "0 0 1 1 1", "work") + Check.person(10, "0 0 1 1 1", "work") + Check.person(4, "0 0 1 1 1", "work");
        SixStroke x = Check.town("town steps 20;" + tail);
        CHECK.due("two alike are above: 3 takes it", x.laws(1), 3);
        CHECK.due("the law stays", x.count(8), 2);
        CHECK.due("n 0", x.laws(0), -2);
        CHECK.due("n 31", x.laws(31), -2);
        x.have(0, 4);
        CHECK.due("all alike: the first", x.laws(1), 2);
        // one DAY: 5 4 5, which 3 levels; two DAYS: 5 5 5 by 2, 4 4 4 by 3
        SixStroke later = Check.town("town steps 12;law over 0 ties 4 goes burnt;" + Check.person(3, "2 0 1 0 0", "eat")
                + Check.person(3, "1 0 1 0 0", "work") + Check.person(9, "2 0 1 0 0", "eat"));
        CHECK.due("one DAY", later.laws(1), 3);
        CHECK.due("two DAYS", later.laws(2), 2);
        SixStroke three = Check.town("town steps 20;" + Check.person(10, "0 0 1 1 1", "work") + tail);
        CHECK.due("three are above: 4 takes it", three.laws(1), 4);
    }

    private static void paysAndQuiet() {
        CHECK.due("nobody", Check.town("town steps 5;").quiet(1, 0), -2);
        SixStroke x = Check.town("town steps 20;" + Check.person(10, "3 2 5 8 3", "work") + Check.person(7, "3 1 4 1 1", "work")
                + Check.person(4, "5 0 3 1 1", "work"));
        // 13 10 9: 3 lost; 13 13 14: 1 of the third; 16 16 18: 2; 19 19 20 (of 21): 1; 20 20 20
        CHECK.due("the first pays once", x.pays(0, 4), 3);
        CHECK.due("the second never", x.pays(1, 4), 0);
        CHECK.due("the third", x.pays(2, 4), 4);
        CHECK.due("one DAY", x.pays(2, 1), 0);
        CHECK.due("person 3", x.pays(3, 1), -2);
        CHECK.due("n 0", x.pays(0, 0), -2);
        CHECK.due("n 31", x.pays(0, 31), -2);
        CHECK.due("no quiet DAY", x.quiet(4, 0), 0);
        CHECK.due("the first of none", x.quiet(4, 1), 0);
        CHECK.due("quiet from the fifth on", x.quiet(7, 0), 3);
        CHECK.due("the first", x.quiet(7, 1), 5);
        CHECK.due("what 2", x.quiet(7, 2), -2);
        CHECK.due("what -1", x.quiet(7, -1), -2);
        CHECK.due("n 0", x.quiet(0, 0), -2);
        CHECK.due("n 31", x.quiet(31, 0), -2);
        CHECK.due("all stays", x.count(6) + x.count(4), 0);
    }

    private static void againAndAlike() {
        SixStroke nobody = Check.town("town steps 5;");
        CHECK.due("nobody", nobody.again(1), -2);
        CHECK.due("nobody", nobody.alike(1), -2);
        SixStroke x = Check.town("town steps 20;" + Check.person(10, "3 2 5 8 3", "work") + Check.person(7, "3 1 4 1 1", "work")
                + Check.person(4, "5 0 3 1 1", "work"));
        CHECK.due("behind two 13 13 13", x.alike(30), 2);
        CHECK.due("behind just two", x.alike(2), 2);
        CHECK.due("not behind one", x.alike(1), -1);
        CHECK.due("n 0", x.alike(0), -2);
        CHECK.due("n 31", x.alike(31), -2);
        CHECK.due("never again", x.again(30), -1);
        CHECK.due("n 0", x.again(0), -2);
        CHECK.due("n 31", x.again(31), -2);
        CHECK.due("all stays", x.count(6), 0);
        SixStroke still = Check.town("town steps 20;" + Check.person(7, "3 2 5 8 3", "eat") + Check.person(7, "0 1 4 1 1", "work"));
        CHECK.due("all as now at once", still.again(5), 1);
        // 9 7, then 7 9, then 9 7
        SixStroke turns = Check.town("town steps 20;law over 0 ties 2 goes shared;" + Check.person(9, "0 2 5 8 3", "work")
                + Check.person(7, "0 1 4 1 1", "work"));
        CHECK.due("behind two", turns.again(2), 2);
        CHECK.due("not behind one", turns.again(1), -1);
        turns.run(1);
        turns.pays(0, 1);
        CHECK.due("as they HAVE now", turns.again(5), 2);
        CHECK.due("the law is as it was", turns.person(0, 0), 7);
        SixStroke first = Check.town("town steps 20;" + Check.person(3, "1 2 5 8 3", "work") + Check.person(9, "0 1 4 1 1", "work")
                + Check.person(9, "0 1 4 1 1", "work"));
        CHECK.due("the first alone has more", first.again(4), -1);
        SixStroke lent = Check.town("town steps 20;" + Check.person(5, "0 2 5 8 3", "work") + Check.person(9, "0 1 4 1 1", "work")
                + Check.person(9, "0 1 4 1 1", "work"));
        lent.law(0, 4, 0, false);
        lent.lend(1, 0, 2);
        // 7 7 9: 2 lost, then 5 9 7; 5 7 7; 5 5 5
        CHECK.due("behind three all alike", lent.alike(5), 3);
        SixStroke one = Check.town("town steps 20;" + Check.person(5, "0 2 5 8 3", "work"));
        CHECK.due("one alone is alike", one.alike(3), 1);
    }

    private static void row(SixStroke x, int slot, int... numbers) {
        x.row(slot, 0, numbers.length);
        for (int i = 0; i < numbers.length; i++) {
            x.write(slot, i, numbers[i]);
        }
    }

    private static void followsRow() {
        SixStroke x = Check.town("town steps 20;" + Check.person(10, "3 2 5 8 3", "hide 4") + Check.person(5, "0 1 4 1 1", "work"));
        CHECK.due("nothing", x.follows(0, 0), Check.NOTHING);
        CHECK.due("SLOT -1", x.follows(0, -1), Check.NOTHING);
        CHECK.due("SLOT 4", x.follows(0, 4), Check.NOTHING);
        row(x, 0);
        CHECK.due("no number", x.follows(0, 0), Check.NOTHING);
        row(x, 0, 4, 4);
        CHECK.due("as total()", x.follows(0, 0), 46);
        row(x, 0, 4, 3);
        // 13 to 5; 8, 4 HIDDEN, 4 SHOWN: keeps 8: 25 - 2 + 40 - 2 (the other one, with 5, loses 1)
        CHECK.due("work, then hide 4", x.follows(0, 0), 61);
        row(x, 0, 3, 0, 3);
        // 13 hides 4, loses 4: 9 (45 - 2); 12, 8 SHOWN eats 3 (15): 9 (45 + 15 - 2); 12, 8 SHOWN loses 3: 9 (45 - 2)
        CHECK.due("hide, eat, hide: N 4 each time", x.follows(0, 0), 43 + 58 + 43);
        CHECK.due("person 2", x.follows(2, 0), Check.NOTHING);
        row(x, 0, 4, 6);
        CHECK.due("6 is no WAY", x.follows(0, 0), Check.NOTHING);
        row(x, 0, 4);
        CHECK.due("one number", x.follows(0, 0), 23);
        x.act(0, 1, 3, 0, -1);
        CHECK.due("GOOD there is does not count", x.follows(0, 0), 23);
        CHECK.due("nor in plan()", x.plan(0, 1, 0), x.total(0, x.plan(0, 1, 1), 1));
        x.have(0, 10);
        row(x, 0, -1);
        CHECK.due("-1 is no WAY", x.follows(0, 0), Check.NOTHING);
        x.row(1, 0, 30);
        CHECK.due("30 DAYS", x.follows(0, 1), x.total(0, 0, 30));
        x.row(1, 0, 31);
        CHECK.due("31", x.follows(0, 1), Check.NOTHING);
        x.row(2, 3, 1);
        x.write(2, 0, 1L << 32);
        CHECK.due("a great number is no WAY", x.follows(0, 2), Check.NOTHING);
        CHECK.due("all stays", x.person(0, 2) * 10 + x.count(6), 30);
    }

    private static void plans() {
        SixStroke x = Check.town("town steps 12;" + Check.person(10, "3 2 5 8 3", "hide 4") + Check.person(5, "1 1 4 1 1", "work"));
        CHECK.due("person 2", x.plan(2, 1, 0), Check.NOTHING);
        CHECK.due("n 0", x.plan(0, 0, 0), Check.NOTHING);
        CHECK.due("n 4", x.plan(0, 4, 0), Check.NOTHING);
        CHECK.due("what -1", x.plan(0, 1, -1), Check.NOTHING);
        CHECK.due("what above n", x.plan(0, 2, 3), Check.NOTHING);
        CHECK.due("one DAY", x.plan(0, 1, 0), x.total(0, x.way(0, 1), 1));
        CHECK.due("its WAY", x.plan(0, 1, 1), x.way(0, 1));
        for (int n = 2; n <= 3; n++) {
            int most = Integer.MIN_VALUE;
            int[] ways = new int[n];
            int[] best = new int[n];
            for (int code = 0; code < Math.pow(6, n); code++) {
                for (int day = 0, rest = code; day < n; day++, rest /= 6) {
                    ways[n - 1 - day] = rest % 6;
                }
                row(x, 3, ways);
                int good = x.follows(0, 3);
                if (good > most) {
                    most = good;
                    best = ways.clone();
                }
            }
            CHECK.due("most of " + n, x.plan(0, n, 0), most);
            for (int day = 1; day <= n; day++) {
                CHECK.due("WAY of DAY " + day + " of " + n, x.plan(0, n, day), best[day - 1]);
            }
        }
        SixStroke poor = Check.town("town steps 20;law over 30 ties 2 goes well;" + Check.person(1, "1 0 5 0 0", "work") + Check.person(9, "0 1 4 1 1", "work"));
        CHECK.due("all alike: the first", poor.plan(0, 3, 1) + poor.plan(0, 3, 2) + poor.plan(0, 3, 3), 0);
        CHECK.due("all stays", poor.count(6), 0);
        CHECK.due("most now", poor.plan(0, 1, 0), 10);
        poor.have(0, 0);
        CHECK.due("less then", poor.plan(0, 1, 0), 5);
    }

    /** As many as can be: 0 has 10, the others 9 .. 3, each working for 1. */
    private static void eightPeople() {
        StringBuilder b = new StringBuilder("town steps 20;law over 0 ties 2 goes shared least;found 100;");
        String[] ways = {"eat", "match", "league 0", "hide 2", "work", "best", "work", "best"};
        for (int p = 0; p < 8; p++) {
            b.append(Check.person(10 - p, "1 0 1 0 0", ways[p]));
        }
        SixStroke x = Check.town(b.toString());
        CHECK.due("tops", x.tops(), 1);
        CHECK.due("next", x.next(), 9);
        CHECK.due("the eighth", x.person(7, 0), 3);
        CHECK.due("seen", x.seen(7, 0), 10);
        CHECK.due("spread", x.spread(), 84);
        CHECK.due("gifts", x.gifts(0), 1);
        CHECK.due("third", x.third(7), 0);
        CHECK.due("restless", x.restless(), 0);
        CHECK.due("rests", x.rests(1), -2);
        CHECK.due("best of the eighth", x.best(7, 0), 4);
        CHECK.due("knowing", x.know(7), 0);
        CHECK.due("GOOD of all", x.beside(3, 3), goodOfAll(x));
        CHECK.due("no DAY like now", x.again(3), -1);
        CHECK.due("open", x.open(), 0);
        x.run(1);
        CHECK.due("DAY", x.count(6), 1);
        x.stroke();
        CHECK.due("people", x.count(1), 8);
        SixStroke still = Check.town("town steps 20;" + Check.person(5, "0 0 1 0 0", "work").repeat(8));
        CHECK.due("all eight HAVE what they HAVE", still.again(30), 1);
        CHECK.due("all eight HAVE alike", still.alike(30), 1);
        CHECK.due("all eight have the MOST", still.tops(), 255);
        still.have(7, 6);
        CHECK.due("the eighth alone", still.tops(), 128);
        CHECK.due("the eighth LOSES 1 and never has it again", still.again(30), -1);
    }

    /** GOOD behind three DAYS, person by person. */
    private static int goodOfAll(SixStroke x) {
        int sum = 0;
        for (int p = 0; p < 8; p++) {
            sum += x.total(p, x.person(p, 2), 3);
        }
        return sum;
    }
}
