/** Promises 15, 16, 18, 19, 22, 23, 35, 36, 39 and 40: ACTS, their VALUE, REST, knowing and hiding. */
public final class ActTest {
    private static final Check CHECK = new Check("ActTest");

    public static void main(String[] args) {
        acts();
        judged();
        values();
        valuesByLaw();
        bests();
        bestOrder();
        restless();
        rests();
        knowing();
        hiding();
        CHECK.close();
    }

    private static void acts() {
        SixStroke x = Check.town("town steps 12;" + Check.person(10, "3 2 5 8 3", "eat") + Check.person(11, "1 1 1 1 1", "work"));
        CHECK.due("does nothing", x.act(0, 0, 0, 0, -1), 10);
        CHECK.due("no GOOD", x.person(0, 3), 0);
        CHECK.due("eats four: 8 + 5 + 2 + 0", x.act(0, 0, 4, 0, -1), 6);
        CHECK.due("GOOD", x.person(0, 3), 15);
        CHECK.due("works", x.act(0, 1, 0, 0, -1), 9);
        CHECK.due("tires", x.person(0, 3), 13);
        CHECK.due("works to the last step", x.act(0, 1, 0, 0, -1), 12);
        CHECK.due("what comes beyond is gone", x.act(0, 1, 1, 0, -1), 11);
        CHECK.due("gives", x.act(0, 0, 2, 4, 1), 5);
        CHECK.due("beyond steps is gone", x.person(1, 0), 12);
        CHECK.due("eats of what work brings", x.act(0, 1, 8, 0, -1), 0);
        CHECK.due("has not so much", x.act(0, 0, 1, 0, -1), -5);
        CHECK.due("not so much with work", x.act(0, 1, 2, 2, 1), -5);
        CHECK.due("nothing is done", x.person(0, 0), 0);
        CHECK.due("very much", x.act(0, 0, Integer.MAX_VALUE, Integer.MAX_VALUE, 1), -5);
        CHECK.due("work 2", x.act(0, 2, 0, 0, -1), -2);
        CHECK.due("work -1", x.act(0, -1, 0, 0, -1), -2);
        CHECK.due("eats below 0", x.act(0, 0, -1, 0, -1), -2);
        CHECK.due("gives below 0", x.act(0, 0, 0, -1, 1), -2);
        CHECK.due("nothing to somebody", x.act(0, 0, 0, 0, 1), -2);
        CHECK.due("something to nobody", x.act(1, 0, 0, 1, -1), -2);
        CHECK.due("something to himself", x.act(1, 0, 0, 1, 1), -2);
        CHECK.due("something to none such", x.act(1, 0, 0, 1, 2), -2);
        CHECK.due("no such person", x.act(2, 0, 0, 0, -1), -2);
        CHECK.due("no such ACT goes ahead of not so much", x.act(0, 0, 99, 1, 0), -2);
        x.hide(1, 12);
        x.act(1, 0, 5, 3, 0);
        CHECK.due("who has less than is HIDDEN hides all", x.person(1, 1), 4);
        CHECK.due("the other got it", x.person(0, 0), 3);
        CHECK.due("no DAY", x.count(6), 0);
        CHECK.due("gives one", x.act(1, 0, 0, 1, 0), 3);
        CHECK.due("the other got it", x.person(0, 0), 4);
    }

    private static void tellActs(SixStroke x, int slot, int... numbers) {
        x.row(slot, 0, numbers.length);
        for (int i = 0; i < numbers.length; i++) {
            x.write(slot, i, numbers[i]);
        }
    }

    private static void judged() {
        SixStroke x = Check.town("town steps 12;" + Check.person(3, "3 2 5 8 3", "eat") + Check.person(0, "1 1 1 1 1", "work"));
        CHECK.due("no such SLOT", x.judge(-1), -2);
        CHECK.due("no such SLOT", x.judge(4), -2);
        CHECK.due("nothing", x.judge(0), -6);
        tellActs(x, 0);
        CHECK.due("no ACT", x.judge(0), 0);
        tellActs(x, 0, 0, 0, 0, 3, 1, /**/ 1, 0, 3, 0, -1, /**/ 1, 0, 1, 0, -1);
        CHECK.due("one behind the other", x.judge(0), 2);
        CHECK.due("in thought", x.person(0, 0), 3);
        CHECK.due("no GOOD", x.person(1, 3), 0);
        tellActs(x, 1, 1, 0, 1, 0, -1, /**/ 0, 0, 1, 0, -1);
        CHECK.due("the first can't be", x.judge(1), 0);
        tellActs(x, 1, 0, 0, 1, 0, -1, /**/ 0, 0, 1, 0, 1, /**/ 0, 0, 0, 0, -1);
        CHECK.due("none such", x.judge(1), 1);
        tellActs(x, 1, 0, 1, 6, 0, -1, 0, 0, 9, 0);
        CHECK.due("four left over", x.judge(1), 1);
        tellActs(x, 1, 0, 1, 6, 0);
        CHECK.due("four alone", x.judge(1), 0);
        for (int left = 0; left < 5; left++) {
            // 1 0 0 1 would be a gift of 1 to 0, if the number behind it were looked at
            int[] rest = {1, 0, 0, 1};
            int[] row = {0, 0, 0, 3, 1, 0, 0, 0, 0};
            System.arraycopy(rest, 0, row, 5, left);
            tellActs(x, 1, java.util.Arrays.copyOf(row, 5 + left));
            CHECK.due(left + " left over", x.judge(1), 1);
        }
        tellActs(x, 1, 0, 0, 0, 3, 1, /**/ 0, 0, 0, 0, -1, /**/ 1, 0, 3, 0, -1, /**/ 0, 0, 1, 0, -1);
        CHECK.due("the one to whom it was given eats it", x.judge(1), 3);
        int[] full = new int[60];
        for (int i = 4; i < 60; i += 5) {
            full[i] = -1;
        }
        tellActs(x, 1, full);
        CHECK.due("twelve ACTS in a full row", x.judge(1), 12);
        full[57] = 4;
        tellActs(x, 1, full);
        CHECK.due("all but the last", x.judge(1), 11);
        x.row(2, 3, 5);
        x.write(2, 4, -1);
        CHECK.due("doing nothing", x.judge(2), 1);
        x.write(2, 0, 1L << 32);
        CHECK.due("no person has so great a number", x.judge(2), 0);
        x.write(2, 0, 0);
        x.write(2, 1, (1L << 32) + 1);
        CHECK.due("nor is that work", x.judge(2), 0);
        x.write(2, 1, 0);
        x.write(2, 2, 1L << 32);
        CHECK.due("nor can so much be eaten", x.judge(2), 0);
        x.write(2, 2, 0);
        x.write(2, 4, (1L << 32) - 1);
        CHECK.due("nor is that NONE", x.judge(2), 0);
        x.write(2, 3, Long.MAX_VALUE);
        x.write(2, 2, Long.MAX_VALUE);
        x.write(2, 4, 1);
        CHECK.due("nor given", x.judge(2), 0);
        SixStroke nobody = new SixStroke();
        tellActs(nobody, 0, 0, 0, 0, 0, -1);
        CHECK.due("nobody", nobody.judge(0), 0);
    }

    private static void values() {
        SixStroke x = Check.town("town steps 20;" + Check.person(10, "3 2 5 8 3", "eat") + Check.person(7, "1 1 1 1 1", "work")
                + Check.person(2, "1 1 1 1 1", "work"));
        CHECK.due("nothing: he loses 3 of 10", x.value(0, 0, 0, 0, -1), 35);
        CHECK.due("work: he loses 6 of 13", x.value(0, 1, 0, 0, -1), 33);
        CHECK.due("eats 3: 8 + 5 + 2", x.value(0, 0, 3, 0, -1), 50);
        CHECK.due("eats 4", x.value(0, 0, 4, 0, -1), 45);
        CHECK.due("gives 1 to 1: 9, 8", x.value(0, 0, 0, 1, 1), 40);
        CHECK.due("gives 2 to 1: 8, 9", x.value(0, 0, 0, 2, 1), 40);
        CHECK.due("gives 2 to 2: 8, 7", x.value(0, 0, 0, 2, 2), 35);
        CHECK.due("works, eats, gives: 13 - 2 - 2 = 9, 9", x.value(0, 1, 2, 2, 1), 5 * 9 + 13 - 2);
        CHECK.due("has not so much", x.value(0, 0, 11, 0, -1), Check.NOTHING);
        CHECK.due("none such", x.value(0, 0, 0, 0, 1), Check.NOTHING);
        CHECK.due("no such person", x.value(3, 0, 0, 0, -1), Check.NOTHING);
        x.hide(1, 4);
        CHECK.due("SHOWN of others alone: 3, so he loses 7", x.value(0, 0, 0, 0, -1), 15);
        x.hide(1, 0);
        x.sight(0, 1, 5);
        CHECK.due("SEEN 5", x.value(0, 0, 0, 0, -1), 25);
        CHECK.due("SEEN 5 and what he gave", x.value(0, 0, 0, 2, 1), 35);
        x.sight(0, 1, 1);
        x.hide(0, 4);
        CHECK.due("what he hides he keeps: SHOWN 6", x.value(0, 0, 0, 0, -1), 50);
        CHECK.due("eats all but 2, which he hides", x.value(0, 0, 8, 0, -1), 10 + 15);
        x.sight(1, 0, 6);
        CHECK.due("1 has 7 and sees 6 of 0's 6", x.value(1, 0, 0, 0, -1), 6);
        x.hide(0, 5);
        CHECK.due("1 sees 0 of 0's 5", x.value(1, 0, 0, 0, -1), 2);
        x.hide(0, 4);
        CHECK.due("all stays", x.person(0, 0), 10);
    }

    private static void valuesByLaw() {
        SixStroke x = Check.town("town steps 20; law over 0 ties 2 goes shared; found 100;" + Check.person(4, "3 2 5 8 3", "eat")
                + Check.person(15, "1 1 1 1 1", "work") + Check.person(4, "1 1 1 1 1", "work"));
        CHECK.due("gets of what another loses: 11 by 2", x.value(0, 0, 0, 0, -1), 5 * 9);
        x.law(0, 2, 0, true);
        x.have(2, 6);
        CHECK.due("the least gets up to 6", x.value(0, 0, 0, 0, -1), 30);
        x.law(30, 2, 0, true);
        CHECK.due("the WELL is empty", x.value(0, 0, 0, 0, -1), 20);
        x.law(0, 2, 0, false);
        x.stroke();
        x.law(30, 2, 0, true);
        CHECK.due("the WELL as it is: 9", x.value(0, 0, 0, 0, -1), 30);
        x.hide(0, 2);
        CHECK.due("nobody is found; SHOWN 2 gets 4", x.value(0, 0, 0, 0, -1), 40);
        x.hide(0, 0);
        x.lend(1, 0, 1);
        CHECK.due("without LOANS: 5 gets no more than to what 1 shows", x.value(0, 0, 0, 0, -1), 25);
        CHECK.due("the WELL stays", x.count(4), 9);
    }

    private static void bests() {
        SixStroke x = Check.town("town steps 20;" + Check.person(10, "3 2 5 8 3", "eat") + Check.person(7, "1 1 1 1 1", "work")
                + Check.person(2, "1 1 1 1 1", "work"));
        // with work 13: eats 2 (13), gives 2 to 1: 9 and 9: 45 + 13 - 2 = 56; eats 3 (15) and gives 1: 9, 8: loses 1: 53;
        // eats 3, gives 2: 8, 9: 40 + 15 - 2 = 53; without: eats 1, gives 1: 8, 8: 48; eats 2 gives 1: 7, 8: 48; eats 3: 50
        // eats 1 (8), gives 3: 9, 10: 45 + 8 - 2 = 51
        int[] want = {56, 1, 2, 2, 1};
        for (int what = 0; what < 5; what++) {
            CHECK.due("best " + what, x.best(0, what), want[what]);
        }
        CHECK.due("what 5", x.best(0, 5), -2);
        CHECK.due("what -1", x.best(0, -1), -2);
        CHECK.due("no such person", x.best(3, 0), Check.NOTHING);
        CHECK.due("no such person", x.best(3, 1), -2);
        CHECK.due("no such person", x.best(-1, 4), -2);
        CHECK.due("no such person", x.best(-1, 9), -2);
        SixStroke one = Check.town("town steps 20;" + Check.person(8, "1 1 1 1 1", "work") + Check.person(10, "0 1 5 0 0", "best")
                + "sees 1 0 within 7;");
        CHECK.due("8 is seen as 7: gives 1", one.best(1, 3), 1);
        CHECK.due("9 less 1, 8", one.best(1, 0), 40);
        one.sight(1, 0, 1);
        CHECK.due("gives 1", one.best(1, 3), 1);
        CHECK.due("9 and 9", one.best(1, 0), 45);
        SixStroke gains = Check.town("town steps 20;law over 0 ties 3 goes shared;" + Check.person(10, "0 1 5 1 1", "best").repeat(3));
        CHECK.due("eats all, so that two lose all to him", gains.best(0, 2), 10);
        CHECK.due("its VALUE", gains.best(0, 0), 101);
        SixStroke raised = Check.town("town steps 20;" + Check.person(4, "0 1 5 3 0", "best") + Check.person(8, "1 1 1 1 1", "work")
                + Check.person(20, "1 1 1 1 1", "work"));
        raised.stroke();
        raised.law(30, 2, 0, true);
        CHECK.due("eats all, being raised to 8", raised.best(0, 2), 4);
        CHECK.due("its VALUE", raised.best(0, 0), 52);
        // to eat the one he has and then give it, so that both others LOSE 10 to him, can't be
        SixStroke both = Check.town("town steps 20;law over 0 ties 3 goes shared;" + Check.person(1, "0 1 1 99 0", "best")
                + Check.person(10, "1 1 1 1 1", "work") + Check.person(9, "1 1 1 1 1", "work"));
        CHECK.due("what is eaten is not given", both.best(0, 0), 99);
        CHECK.due("nothing is given", both.best(0, 3), 0);
        SixStroke lazy = Check.town("town steps 20;" + Check.person(3, "1 50 5 4 0", "best") + Check.person(7, "1 1 1 1 1", "work"));
        int[] rest = {15, 0, 0, 0, -1};
        for (int what = 0; what < 5; what++) {
            CHECK.due("to do nothing is best " + what, lazy.best(0, what), rest[what]);
        }
    }

    private static void bestOrder() {
        // nothing is worth anything: of like ones work, nothing eaten, nothing given
        SixStroke x = Check.town("town steps 20;" + Check.person(3, "1 0 0 0 0", "best") + Check.person(1, "1 1 1 1 1", "work"));
        int[] first = {0, 1, 0, 0, -1};
        for (int what = 0; what < 5; what++) {
            CHECK.due("all alike " + what, x.best(0, what), first[what]);
        }
        // eating one is worth just what having it is: the least eaten
        SixStroke even = Check.town("town steps 20;" + Check.person(3, "0 0 5 5 0", "best") + Check.person(9, "1 1 1 1 1", "work"));
        CHECK.due("the least eaten", even.best(0, 2), 0);
        CHECK.due("working ahead of not", even.best(0, 1), 1);
        // 10 against 4, 4: a gift of 3 to either is best, to the first
        SixStroke whom = Check.town("town steps 20;" + Check.person(4, "1 1 1 1 1", "work") + Check.person(10, "0 1 5 0 0", "best")
                + Check.person(4, "1 1 1 1 1", "work"));
        CHECK.due("the least given", whom.best(1, 3), 3);
        CHECK.due("the least to whom", whom.best(1, 4), 0);
        CHECK.due("its VALUE", whom.best(1, 0), 35);
        CHECK.due("work brings nothing and tires", whom.best(1, 1), 0);
        SixStroke alone = Check.town("town steps 20;" + Check.person(4, "2 1 9 1 1", "best"));
        CHECK.due("alone he loses all he does not eat", alone.best(0, 2), 1);
        CHECK.due("that is worth", alone.best(0, 0), 1);
        CHECK.due("to nobody", alone.best(0, 4), -1);
    }

    private static void restless() {
        CHECK.due("nobody", Check.town("town steps 5;").restless(), -2);
        SixStroke x = Check.town("town steps 20;" + Check.person(10, "3 2 5 3 0", "work") + Check.person(7, "3 2 5 3 0", "work")
                + Check.person(2, "3 2 5 6 0", "work"));
        CHECK.due("who would lose, and who likes eating more", x.restless(), 5);
        x.have(0, 7);
        CHECK.due("two have the MOST", x.restless(), 4);
        x.sight(1, 0, 6);
        CHECK.due("the second sees 6 of 7", x.restless(), 6);
        x.sight(1, 0, 1);
        x.have(2, 0);
        CHECK.due("who has nothing rests", x.restless(), 0);
    }

    private static void rests() {
        SixStroke x = Check.town("town steps 20;" + Check.person(10, "3 2 5 3 0", "work") + Check.person(7, "3 2 5 3 0", "work"));
        // both alike, or one ahead by just one: he would lose 1 worth 5, and eating it brings 3: restless
        CHECK.due("k 0", x.rests(0), -2);
        CHECK.due("k 7", x.rests(7), -2);
        CHECK.due("alike alone: 0 0, 1 1", x.rests(1), 2);
        CHECK.due("of 49 the seven alike", x.rests(6), 7);
        x.law(1, 2, 0, false);
        CHECK.due("one above is let be", x.rests(2), 7);
        x.hide(0, 9);
        CHECK.due("nothing HIDDEN", x.rests(2), 7);
        CHECK.due("all stays", x.person(0, 1), 9);
        CHECK.due("nobody", Check.town("town steps 5;").rests(1), -2);
        String man = Check.person(1, "1 1 1 0 0", "work");
        CHECK.due("three", Check.town("town steps 5;law over 30 ties 2 goes well;" + man.repeat(3)).rests(2), 27);
        CHECK.due("four", Check.town("town steps 5;" + man.repeat(4)).rests(1), -2);
        CHECK.due("one alone has nothing, or loses all he does not eat",
                Check.town("town steps 9;" + Check.person(1, "1 1 1 0 0", "work")).rests(6), 7);
        CHECK.due("one alone keeps 1: only with 0 or 1 he rests",
                Check.town("town steps 9;law over 1 ties 2 goes well;" + Check.person(1, "1 1 5 3 0", "work")).rests(6), 2);
        CHECK.due("one alone eats", Check.town("town steps 9;" + Check.person(1, "1 1 1 1 0", "work")).rests(6), 1);
    }

    private static void knowing() {
        // he has 10 and sees 7 as 0: to give 5 seems best, 5 at 5; truly to give 1 is: 9 at 8, less 1
        SixStroke x = Check.town("town steps 20;" + Check.person(10, "0 1 5 0 0", "best") + Check.person(7, "1 1 1 1 1", "work")
                + Check.person(0, "1 1 1 1 1", "work") + "sees 0 1 within 10; sees 0 2 within 3;");
        CHECK.due("gives by what he SEES", x.best(0, 3), 5);
        CHECK.due("knowing: 8 instead of 5, worth 5 each", x.know(0), 15);
        CHECK.due("knowing just 1", x.knows(0, 1), 15);
        CHECK.due("knowing just 2 is worth nothing", x.knows(0, 2), 0);
        CHECK.due("who sees all knows all", x.know(1), 0);
        CHECK.due("no such person", x.know(3), Check.NOTHING);
        CHECK.due("no such person", x.knows(0, 3), Check.NOTHING);
        CHECK.due("one twice", x.knows(1, 1), Check.NOTHING);
        CHECK.due("all stays", x.sight(0, 1, 10), 10);
        // 4 seen as 0, 9 as 0: who knows the 4 alone gives 3 to it and keeps 7; else 5 to 1: 5 at 9, 9;
        // truly nothing given is 9
        SixStroke half = Check.town("town steps 20;" + Check.person(10, "0 1 5 0 0", "best") + Check.person(4, "1 1 1 1 1", "work")
                + Check.person(9, "1 1 1 1 1", "work") + "sees 0 1 within 10; sees 0 2 within 10;");
        CHECK.due("knowing all", half.know(0), 20);
        CHECK.due("knowing the one who has little", half.knows(0, 1), 10);
        CHECK.due("knowing the one who has much", half.knows(0, 2), 20);
        SixStroke alone = Check.town("town steps 5;" + Check.person(3, "1 1 1 1 1", "best"));
        CHECK.due("alone", alone.know(0), 0);
        // 7 seen as 5: gives 2 for 7 at 7; truly that is 8 at 9, and nothing is better
        SixStroke lucky = Check.town("town steps 20;" + Check.person(10, "0 1 5 0 0", "best") + Check.person(7, "1 1 1 1 1", "work")
                + "sees 0 1 within 5;");
        CHECK.due("gives by what he SEES", lucky.best(0, 3), 2);
        CHECK.due("knowing is worth nothing", lucky.know(0), 0);
        CHECK.due("nor knowing the one", lucky.knows(0, 1), 0);
        // the second sees the first's 9 as 0: works (10) and gives 5; truly works, 10 at 9: 9 either way
        SixStroke works = Check.town("town steps 20;" + Check.person(9, "1 1 1 1 1", "work") + Check.person(6, "4 1 5 0 0", "best")
                + Check.person(0, "1 1 1 1 1", "work") + "sees 1 0 within 10;");
        CHECK.due("works", works.best(1, 1) * 100 + works.best(1, 3) * 10 + works.best(1, 4), 150);
        CHECK.due("9 instead of 5", works.know(1), 20);
        CHECK.due("knowing the first", works.knows(1, 0), 20);
        CHECK.due("knowing the third", works.knows(1, 2), 0);
        // too tired to work: 10 against 8 seen as 0; truly to give 1 is best, 9 at 9
        SixStroke tired = Check.town("town steps 20;" + Check.person(8, "1 1 1 1 1", "work") + Check.person(10, "1 90 5 0 0", "best")
                + "sees 1 0 within 10;");
        CHECK.due("rests, gives 5", tired.best(1, 1) * 100 + tired.best(1, 3), 5);
        CHECK.due("9 instead of 5", tired.know(1), 20);
    }

    private static void hiding() {
        SixStroke x = Check.town("town steps 20; found 25;" + Check.person(10, "0 1 5 0 0", "work") + Check.person(6, "1 1 3 1 1", "work"));
        CHECK.due("hides nothing: loses 4", x.hides(0, 0), 30);
        // 2 HIDDEN: SHOWN 8 loses 2: 8; 2 gone: 8 loses 2: 6: (40 * 75 + 30 * 25) / 100 = 37.5
        CHECK.due("hides 2, cut", x.hides(0, 2), 37);
        CHECK.due("hides all: 10, or 0 gone", x.hides(0, 10), 37);
        CHECK.due("more than he HAS", x.hides(0, 11), Check.NOTHING);
        CHECK.due("below 0", x.hides(0, -1), Check.NOTHING);
        CHECK.due("no such person", x.hides(2, 0), Check.NOTHING);
        // 40 (100 - f) + 30 f by 100, cut, no more than 30: from 91 on (30.9 is cut to 30)
        CHECK.due("edge of 2", x.edge(0, 2), 91);
        // 50 - 50 f / 100, cut, no more than 30: 39 gives 30.5
        CHECK.due("edge of 10", x.edge(0, 10), 39);
        CHECK.due("edge of 0", x.edge(0, 0), 0);
        // 1 hides 1 of 6: 6 either way, 5 gone: 18 - 3 f / 100: at once
        CHECK.due("hiding brings nothing", x.edge(1, 1), 0);
        CHECK.due("edge of more", x.edge(0, 11), -2);
        CHECK.due("edge below 0", x.edge(0, -1), -2);
        CHECK.due("edge of nobody", x.edge(-1, 0), -2);
        CHECK.due("all stays", x.person(0, 1), 0);
        x.hide(0, 4);
        CHECK.due("what is HIDDEN now does not count", x.hides(0, 0), 30);
        x.sight(1, 0, 7);
        x.have(1, 8);
        // 1 has 8 and sees 0 of 0's 6: hides nothing: 0; hides 2: 2, gone: 0
        CHECK.due("by what he SEES", x.hides(1, 0), 0);
        CHECK.due("by what he SEES: 6 * 75 by 100", x.hides(1, 2), 4);
        CHECK.due("edge: 6 - 6 f / 100 below 1", x.edge(1, 2), 84);
        // hides 3: 3, gone 0
        CHECK.due("edge: 9 - 9 f / 100 below 1", x.edge(1, 3), 89);
        SixStroke whole = Check.town("town steps 20;" + Check.person(20, "0 1 20 0 0", "work") + Check.person(10, "1 1 3 1 1", "work"));
        // 400 hidden, 200 gone, 200 open: by 99 it is 202
        CHECK.due("edge 100", whole.edge(0, 10), 100);
        // with least, 1 shows 6 and the WELL has plenty: even found he would be raised to 6
        SixStroke never = Check.town("town steps 20;law over 30 ties 2 goes well least;" + Check.person(10, "0 1 5 0 0", "work")
                + Check.person(12, "1 1 3 1 1", "work") + Check.person(11, "1 1 3 1 1", "work"));
        never.have(1, 20);
        never.law(0, 2, 0, false);
        never.stroke();
        never.have(1, 12);
        never.law(30, 2, 0, true);
        CHECK.due("WELL", never.count(4), 9);
        CHECK.due("hides 8: 2 SHOWN gets 9", never.hides(0, 8), 95);
        // found: 2 gets 9: 11; with nothing HIDDEN 10 gets 1: 11
        CHECK.due("edge of 8", never.edge(0, 8), 98);
        // hides 9: 1 gets 9: 19; gone: 1 gets 9: 10, less than 11: 95 - 0.45 f below 56
        CHECK.due("edge of 9", never.edge(0, 9), 87);
        // three lose 10 each to the one who shows 2: 20 even if he is found, 12 without hiding
        SixStroke more = Check.town("town steps 20;law over 0 ties 4 goes shared;" + Check.person(12, "0 1 5 0 0", "work").repeat(4));
        CHECK.due("even by 100 it is more", more.edge(0, 10), -1);
        // both would LOSE all 5; who hides 4 shows 1 and keeps 5, or 1 if it is found: more than nothing
        SixStroke just = Check.town("town steps 20;law over 0 ties 3 goes well;" + Check.person(5, "0 1 1 0 0", "work").repeat(2));
        CHECK.due("by 100 it is just one more", just.edge(0, 4), -1);
        CHECK.due("hiding all, by 100 it is nothing", just.edge(0, 5), 81);
        more.law(0, 3, 1, false);
        CHECK.due("three are not fewer than 3: hiding brings nothing", more.edge(0, 10), 0);
    }
}
