import java.math.BigInteger;
import java.util.regex.Matcher;
import java.util.regex.Pattern;

/**
 * The edges that the document's Terms name, sentence by sentence in their order: each has a case just inside and one just
 * outside. What bounds a call's own numbers is in RefusalTest.
 */
public final class EdgeTest {
    private static final Check CHECK = new Check("EdgeTest");
    private static final String STILL = "0 0 1 0 0";

    public static void main(String[] args) {
        numbersOfTheText();
        whatNumbersTell();
        sightsOfTheText();
        everyByte();
        everyEnd();
        placesOfFaults();
        tellings();
        beyondSteps();
        hiddenIsNeverMoreThanHas();
        mostAndNext();
        fewerThanTies();
        aboveNextAndOver();
        sharedByOthers();
        raisedFromTheWell();
        foundBelow();
        drawsWrapAround();
        loansComeBack();
        downToAMultiple();
        topOfNone();
        joyIsNeverBelowNothing();
        halvesAreCut();
        hidesOrAll();
        likeOnesTheFirst();
        CHECK.close();
    }

    /** A TOWN of so many steps whose people have so much and whose work brings nothing. */
    private static SixStroke of(int steps, String lines, int... has) {
        StringBuilder b = new StringBuilder("town steps " + steps + ";" + lines);
        for (int n : has) {
            b.append(Check.person(n, STILL, "work"));
        }
        return Check.town(b.toString());
    }

    private static void has(String what, SixStroke x, int... want) {
        for (int p = 0; p < want.length; p++) {
            CHECK.due(what + ": HAS of " + p, x.person(p, 0), want[p]);
        }
    }

    private static void fault(String text, int kind, int place) {
        SixStroke x = new SixStroke();
        CHECK.due("town of " + text, Check.tell(x, text), -4);
        CHECK.due("fault of " + text, x.fault(0), kind);
        CHECK.due("place in " + text, x.fault(1), place);
    }

    private static void accepted(String text, int lines) {
        SixStroke x = new SixStroke();
        CHECK.due("town of " + text, Check.tell(x, text), lines);
        CHECK.due("fault of " + text, x.fault(0), 0);
        CHECK.due("place in " + text, x.fault(1), -1);
    }

    // I: "steps 5 .. 30", "over 0 .. 30, ties 2 .. 4, has 0 .. steps, brings 0 .. 9, tires, worth, eats, dulls 0 .. 99,
    // N of hide 0 .. 30, a P of league 0 .. 7 (told or not), .. within 1 .. 30 .., found 0 .. 100"

    private static void number(String before, String behind, int low, int high, int lines) {
        accepted(before + low + behind, lines);
        accepted(before + high + behind, lines);
        accepted(before + "000" + high + behind, lines);
        if (low > 0) {
            fault(before + (low - 1) + behind, 2, before.length());
        }
        fault(before + (high + 1) + behind, 2, before.length());
        fault(before + "2147483648" + behind, 2, before.length());
        fault(before + (4294967296L + low) + behind, 2, before.length());
        fault(before + "18446744073709551621" + behind, 2, before.length());
        fault(before + "-" + low + behind, 1, before.length());
        fault(before + behind, 1, before.length() + (behind.startsWith(" ") ? 1 : 0));
    }

    private static void numbersOfTheText() {
        String town = "town steps 20;";
        number("town steps ", ";", 5, 30, 1);
        number(town + "law over ", " ties 2 goes well;", 0, 30, 2);
        number(town + "law over 0 ties ", " goes well;", 2, 4, 2);
        number(town + "found ", ";", 0, 100, 2);
        for (int steps : new int[] {5, 20, 30}) {
            number("town steps " + steps + ";person has ", " brings 0 tires 0 worth 0 eats 0 dulls 0 eat;", 0, steps, 2);
        }
        String[] names = {"brings", "tires", "worth", "eats", "dulls"};
        String before = town + "person has 0";
        String behind = " brings 0 tires 0 worth 0 eats 0 dulls 0 eat;";
        for (String name : names) {
            before += " " + name + " ";
            behind = behind.substring((" " + name + " 0").length());
            number(before, behind, 0, name.equals("brings") ? 9 : 99, 2);
            before += "0";
        }
        number(before + " hide ", ";", 0, 30, 2);
        number(before + " league ", ";", 0, 7, 2);
        String two = town + before.substring(town.length()) + " eat;" + before.substring(town.length()) + " eat;";
        number(two + "sees 0 1 within ", ";", 1, 30, 4);
    }

    /** That the greatest numbers are taken as they are. */
    private static void whatNumbersTell() {
        SixStroke x = Check.town("town steps 30;law over 30 ties 4 goes burnt least;found 100;"
                + Check.person(21, "9 99 99 99 99", "hide 30") + Check.person(30, "0 0 0 0 0", "league 7"));
        CHECK.due("brings 9", x.act(0, 1, 0, 0, -1), 30);
        CHECK.due("tires 99", x.person(0, 3), -99);
        CHECK.due("eats 99, then dulls 99: 0", x.act(0, 0, 2, 0, -1), 28);
        CHECK.due("GOOD", x.person(0, 3), 0);
        CHECK.due("worth 99", x.value(0, 0, 0, 0, -1), 99 * 28);
        CHECK.due("nothing is worth anything", x.value(1, 1, 30, 0, -1), 0);
        x.law(30, 4, 2, false);
        CHECK.due("30 above 0 and over 30", x.loses(1), 0);
    }

    // I: "of sees two unlike PEOPLE told ahead", "(a later one for the same two strikes)", "sees 12 times at most"

    private static void sightsOfTheText() {
        String man = Check.person(0, STILL, "work");
        String three = "town steps 20;" + man + man + man;
        int at = three.length();
        for (int p = 0; p < 3; p++) {
            for (int q = 0; q < 3; q++) {
                String text = three + "sees " + p + " " + q + " within 4;";
                if (p == q) {
                    fault(text, 2, at + 7);
                } else {
                    SixStroke x = Check.town(text);
                    CHECK.due("within of the two", x.sight(p, q, 1), 4);
                    CHECK.due("of the two the other way round", x.sight(q, p, 1), 1);
                }
            }
            fault(three + "sees " + p + " 3 within 4;", 2, at + 7);
            fault(three + "sees 3 " + p + " within 4;", 2, at + 5);
            fault(three + "sees 3 3 within 4;", 2, at + 5);
        }
        fault("town steps 20;" + man + "sees 0 1 within 4;" + man, 2, 14 + man.length() + 7);
        fault("town steps 20;" + man + "sees 1 0 within 4;" + man, 2, 14 + man.length() + 5);
        accepted("town steps 20;" + man + man + "sees 1 0 within 4;" + man, 5);
        SixStroke later = Check.town(three + "sees 0 1 within 4;sees 1 2 within 9;sees 0 1 within 7;");
        CHECK.due("a later one strikes", later.sight(0, 1, 1), 7);
        CHECK.due("for the same two alone", later.sight(1, 2, 1), 9);
        String sees = "sees 0 1 within 4;";
        accepted(three + sees.repeat(11) + "sees 0 1 within 9;", 16);
        fault(three + sees.repeat(12) + " sees 0 1 within 9;", 3, at + 12 * sees.length() + 1);
        fault(three + sees.repeat(12) + "sees", 3, at + 12 * sees.length());
        fault(three + sees.repeat(12) + "seesx", 1, at + 12 * sees.length());
        CHECK.due("the twelfth strikes", Check.town(three + sees.repeat(11) + "sees 0 1 within 9;").sight(0, 1, 1), 9);
    }

    // I: "TOKENS, blanks (32, 10) aside, the longest: words (a .. z), numbers (digits), the sign ;"

    private static void everyByte() {
        for (int b = 0; b < 256; b++) {
            char c = (char) b;
            boolean blank = b == 32 || b == 10;
            boolean digit = b >= '0' && b <= '9';
            String between = "town steps 5;" + c + "found 7;";
            String behind = "town steps 5" + c + ";";
            if (blank) {
                accepted(between, 2);
                accepted(behind, 1);
                accepted(c + "town" + c + c + "steps" + c + "5" + c + ";" + c, 1);
            } else {
                fault(between, 1, 13);
                fault(behind, digit ? 2 : 1, digit ? 11 : c == ';' ? 13 : 12);
            }
            fault("to" + c + "wn steps 5;", 1, 0);
            if (!blank) {
                fault(c + "town steps 5;", 1, 0);
            }
        }
        accepted("town steps5;law over0ties2goes well;", 2);
        fault("town steps 5;law over 0 ties 2 goeswell;", 1, 31);
    }

    // I: "FAULTS, the first by its place (a TOKEN's first byte; the end's)"

    private static void everyEnd() {
        String text = "town steps 9;\nlaw over 1 ties 3 goes shared least; found 7;\n"
                + "person has 1 brings 1 tires 1 worth 1 eats 1 dulls 1 hide 2;person has 1 brings 1 tires 1 worth 1 eats 1 dulls 1 best;"
                + "sees 0 1 within 3;  ";
        for (int cut = 0; cut <= text.length(); cut++) {
            String part = text.substring(0, cut);
            Matcher word = Pattern.compile("[a-z]+").matcher(text);
            int cutWord = -1;
            while (word.find()) {
                cutWord = word.start() < cut && cut < word.end() ? word.start() : cutWord;
            }
            String bare = part.stripTrailing();
            if (bare.isEmpty() || bare.endsWith(";")) {
                accepted(part, part.replaceAll("[^;]", "").length());
            } else {
                fault(part, 1, cutWord >= 0 ? cutWord : cut);
            }
        }
    }

    private static void placesOfFaults() {
        String man = Check.person(0, STILL, "work");
        fault("town steps 4; # town", 2, 11);
        fault("# town steps 4;", 1, 0);
        fault("  \n # town steps 4;", 1, 4);
        fault("town 99;", 1, 5);
        fault("town steps 9; person has 10 brings 99", 2, 25);
        fault("town steps 9; person has x brings 99", 1, 25);
        fault("town steps 9; person has 9 99", 1, 27);
        fault("town steps 31 31;", 2, 11);
        // a word that is told already or too often, where it can't stand at all
        fault("town steps 9; law over law", 1, 23);
        fault("town steps 9; found found", 1, 20);
        fault("town steps 9; " + man.repeat(8) + "found person", 1, 14 + 8 * man.length() + 6);
        fault("town steps 9; person person", 1, 21);
        fault("town steps 9; " + man + man + "sees 0 1 within 3;".repeat(12) + "found sees", 1, 14 + 2 * man.length() + 12 * 18 + 6);
        fault("law", 1, 0);
        fault("person", 1, 0);
        fault("sees", 1, 0);
        fault("found", 1, 0);
        fault("steps 5;", 1, 0);
        fault("town steps 9; steps 5;", 1, 14);
        fault("town steps 9; town", 1, 14);
        fault("town steps 9 town", 1, 13);
        fault("town steps 9; law over 0 ties 2 goes well; town steps 9;", 1, 43);
    }

    // I: "law, found once each (over 0 ties 2 goes well, found 0 without)", "a 9th person", "PEOPLE .. are numbered as they stand"

    private static void tellings() {
        String law = "law over 3 ties 3 goes burnt least;";
        String man = Check.person(0, STILL, "work");
        accepted("town steps 9;" + law, 2);
        fault("town steps 9;" + law + law, 2, 13 + law.length());
        fault("town steps 9;" + law + man + "\n law", 2, 13 + law.length() + man.length() + 2);
        fault("town steps 9;found 1;" + law + "found", 2, 21 + law.length());
        fault("town steps 9;found 0;found 0;", 2, 21);
        SixStroke without = Check.town("town steps 9;");
        int[] want = {9, 0, 1, 0, 0, 0, 0, 0, 2, 0, 0, 0, 0};
        for (int what = 0; what < want.length; what++) {
            CHECK.due("count " + what + " without law and found", without.count(what), want[what]);
        }
        accepted("town steps 9;" + man.repeat(8), 9);
        fault("town steps 9;" + man.repeat(8) + man, 3, 13 + 8 * man.length());
        fault("town steps 9;" + man.repeat(8) + "person", 3, 13 + 8 * man.length());
        fault("town steps 9;" + man.repeat(8) + "persons", 1, 13 + 8 * man.length());
        StringBuilder b = new StringBuilder("town steps 9;");
        for (int p = 0; p < 8; p++) {
            b.append(Check.person(p + 1, STILL, "work"));
        }
        SixStroke x = Check.town(b.toString());
        has("as they stand", x, 1, 2, 3, 4, 5, 6, 7, 8);
        CHECK.due("there is no 8", x.person(8, 0), -2);
        fault("town steps 9;" + man.replace("work", "league 8"), 2, 13 + man.indexOf("work") + 7);
        SixStroke untold = Check.town("town steps 9;law over 30 ties 2 goes well;" + Check.person(8, STILL, "league 7") + Check.person(2, STILL, "work"));
        untold.run(1);
        has("a P who is not told gets nothing", untold, 8, 2);
    }

    // II: "Each HAS 0 .. steps (what comes beyond is gone)"

    private static void beyondSteps() {
        SixStroke works = Check.town("town steps 10;law over 30 ties 2 goes well;" + Check.person(8, "2 0 1 0 0", "work")
                + Check.person(9, "2 0 1 0 0", "work") + Check.person(10, "2 0 1 0 0", "work"));
        for (int p = 0; p < 3; p++) {
            CHECK.due("work brings to steps", works.value(p, 1, 0, 0, -1), 10);
            CHECK.due("work brings to steps", works.act(p, 1, 0, 0, -1), 10);
        }
        CHECK.due("nothing of it is in the WELL", works.count(4), 0);
        SixStroke days = Check.town("town steps 10;law over 30 ties 2 goes well;" + Check.person(7, "2 0 1 0 0", "work"));
        days.run(2);
        has("DAYS of work", days, 10);
        SixStroke gives = of(10, "law over 30 ties 2 goes well;", 10, 8);
        CHECK.due("gives 2", gives.act(0, 0, 0, 2, 1), 8);
        has("just steps", gives, 8, 10);
        CHECK.due("gives 3", gives.act(0, 0, 0, 3, 1), 5);
        has("beyond is gone", gives, 5, 10);
        SixStroke shares = of(10, "law over 0 ties 2 goes shared;", 10, 9, 4);
        shares.hide(1, 5);
        // SHOWN 10, 4, 4: LOSES 6, 3 each: 9 + 3 is 10
        CHECK.due("shared", shares.stroke(), 6);
        has("shared", shares, 4, 10, 7);
        CHECK.due("what is gone is not in the WELL", shares.count(4), 0);
        SixStroke opens = of(10, "", 10, 3, 3);
        opens.stroke();
        opens.have(0, 9);
        opens.have(1, 8);
        CHECK.due("opened", opens.open(), 2);
        has("opened", opens, 10, 10, 5);
        CHECK.due("the rest", opens.count(4), 1);
        SixStroke lends = of(10, "law over 30 ties 2 goes well;", 5, 5);
        lends.lend(0, 1, 4);
        lends.have(0, 6);
        lends.stroke();
        has("a LOAN comes back to just steps", lends, 10, 5);
        lends.lend(0, 1, 4);
        lends.have(0, 7);
        lends.stroke();
        has("a LOAN comes back beyond steps", lends, 10, 5);
        CHECK.due("he HAS no more than steps", lends.have(0, 11), -2);
        SixStroke match = Check.town("town steps 10;law over 30 ties 2 goes well;" + Check.person(10, STILL, "match") + Check.person(9, STILL, "work"));
        match.hide(1, 9);
        match.run(1);
        has("a gift beyond steps", match, 5, 10);
        // in VALUE too: he gives 5 of 12 to one with 19, who has 20 then and LOSES 13 above 7: 6 for each of two
        SixStroke thought = of(20, "law over 0 ties 2 goes shared;", 12, 19, 7);
        CHECK.due("a gift beyond steps in thought", thought.value(0, 0, 0, 5, 1), 13);
        CHECK.due("a gift to just steps: 11 at 20, 9 by 2", thought.value(0, 0, 0, 1, 1), 15);
        // in gift() and breaks(): one with 20, all HIDDEN but 2, shows no more by getting
        SixStroke full = of(20, "", 6, 20, 1);
        full.hide(1, 18);
        CHECK.due("4 of 6 go: 2 at 2, both have the MOST", full.gift(0, 1), 4);
        CHECK.due("he never shows more than 2: once the giver shows 1", full.breaks(0, 1), 5);
    }

    // II: "Who has less than is HIDDEN hides all."

    private static void hiddenIsNeverMoreThanHas() {
        SixStroke x = of(20, "law over 30 ties 2 goes well;", 9, 9);
        x.hide(0, 5);
        x.have(0, 5);
        CHECK.due("just so much", x.person(0, 1), 5);
        CHECK.due("SHOWN", x.seen(1, 0), 0);
        x.have(0, 4);
        CHECK.due("less: all", x.person(0, 1), 4);
        x.have(0, 9);
        x.hide(0, 5);
        x.act(0, 0, 4, 0, -1);
        CHECK.due("eats what is SHOWN", x.person(0, 1), 5);
        x.act(0, 0, 1, 0, -1);
        CHECK.due("eats one more", x.person(0, 1), 4);
        x.act(0, 0, 0, 1, 1);
        CHECK.due("gives one more", x.person(0, 1), 3);
        x.lend(0, 1, 1);
        CHECK.due("lends one more", x.person(0, 1), 2);
        x.have(0, 0);
        CHECK.due("has nothing", x.person(0, 1), 0);
        SixStroke owes = of(20, "law over 30 ties 2 goes well;", 9, 0);
        owes.lend(0, 1, 5);
        owes.hide(1, 5);
        owes.have(1, 7);
        owes.stroke();
        CHECK.due("gives back 5 of 7, of which 5 were HIDDEN", owes.person(1, 1), 2);
        SixStroke thought = of(20, "", 9, 3);
        thought.hide(0, 5);
        // of 9 he eats 7: 2, all HIDDEN, so that the other one loses, not he
        CHECK.due("in VALUE too", thought.value(0, 0, 7, 0, -1), 2);
        SixStroke given = of(20, "law over 0 ties 3 goes well;", 9, 3);
        given.hide(0, 9);
        given.have(1, 0);
        // he shows nothing, whatever he gives; of both showing nothing each has the MOST, and LOSES 0
        CHECK.due("in gift() too", given.gift(0, 1), 0);
        CHECK.due("in round() too: the other alone shows what is lent", given.round(0, 1), -1);
        given.law(8, 3, 0, false);
        CHECK.due("in breaks() too: 9 is above 8", given.breaks(0, 1), 9);
    }

    // II: "NEXT the greatest below it (0, if nobody has less)"

    private static void mostAndNext() {
        SixStroke x = of(20, "", 6, 6, 6);
        CHECK.due("nobody has less", x.next(), 0);
        CHECK.due("all have the MOST", x.tops(), 7);
        x.have(2, 5);
        CHECK.due("one has less", x.next(), 5);
        CHECK.due("two have the MOST", x.tops(), 3);
        x.hide(1, 1);
        CHECK.due("SHOWN", x.next(), 5);
        CHECK.due("one has the MOST", x.tops(), 1);
        x.hide(0, 6);
        x.hide(1, 6);
        x.hide(2, 5);
        CHECK.due("nothing is SHOWN", x.next(), 0);
        CHECK.due("all have the MOST", x.tops(), 7);
        x.hide(2, 4);
        CHECK.due("others show nothing", x.next(), 0);
        CHECK.due("the third", x.tops(), 4);
        SixStroke one = of(20, "", 0);
        CHECK.due("one who has nothing", one.tops(), 1);
        CHECK.due("NEXT", one.next(), 0);
        CHECK.due("loses nothing", one.loses(0), 0);
        SixStroke anew = of(20, "", 1, 2, 3);
        CHECK.due("the third", anew.tops(), 4);
        Check.tell(anew, "town steps 9;" + Check.person(0, STILL, "work") + Check.person(0, STILL, "work"));
        CHECK.due("both of a smaller TOWN, who show nothing", anew.tops(), 3);
    }

    // II: "If fewer than ties have the MOST"

    private static void fewerThanTies() {
        for (int ties = 2; ties <= 4; ties++) {
            for (int tied = 1; tied <= 5; tied++) {
                for (int others = 0; others < 2; others++) {
                    int[] all = new int[tied + others];
                    for (int p = 0; p < tied; p++) {
                        all[p] = 10;
                    }
                    if (others > 0) {
                        all[tied] = 4;
                    }
                    SixStroke x = of(20, "law over 0 ties " + ties + " goes well;", all);
                    int each = tied < ties ? others > 0 ? 6 : 10 : 0;
                    String what = tied + " of ties " + ties + " and " + others;
                    CHECK.due(what, x.loses(tied - 1), each);
                    CHECK.due(what + ", together", x.stroke(), each * tied);
                    CHECK.due(what + ", in the WELL", x.count(4), each * tied);
                    CHECK.due(what + ", left", x.person(0, 0), 10 - each);
                }
            }
        }
    }

    // II: "LOSES what MOST is above NEXT and over together, 0 at least"

    private static void aboveNextAndOver() {
        for (int over = 0; over <= 30; over++) {
            SixStroke x = of(30, "law over " + over + " ties 2 goes well;", 12, 7, 3);
            int want = Math.max(0, 5 - over);
            CHECK.due("over " + over, x.loses(0), want);
            CHECK.due("NEXT loses nothing", x.loses(1), 0);
            CHECK.due("over " + over, x.stroke(), want);
            has("over " + over, x, 12 - want, 7, 3);
            CHECK.due("a quiet DAY", x.quiet(1, 0), 1);
        }
        SixStroke most = of(30, "law over 29 ties 2 goes well;", 30);
        CHECK.due("30 above 29", most.stroke(), 1);
        most.have(0, 30);
        most.law(30, 2, 0, false);
        CHECK.due("30 above 30", most.stroke(), 0);
    }

    // II: "each of the others gets it by how many these are, cut, the rest (all, if there are none) goes to the WELL"

    private static void sharedByOthers() {
        for (int lost = 0; lost <= 7; lost++) {
            SixStroke x = of(30, "law over 0 ties 2 goes shared;", 4 + lost, 4, 2, 0);
            if (lost == 0) {
                x.have(1, 3);
                x.law(1, 2, 1, false);
            }
            CHECK.due("lost", x.stroke(), lost);
            if (lost > 0) {
                has("shared " + lost, x, 4, 4 + lost / 3, 2 + lost / 3, lost / 3);
            }
            CHECK.due("the rest of " + lost, x.count(4), lost % 3);
        }
        SixStroke none = of(30, "law over 2 ties 4 goes shared;", 7, 7, 7);
        CHECK.due("there are no others", none.stroke(), 15);
        has("there are no others", none, 2, 2, 2);
        CHECK.due("all goes to the WELL", none.count(4), 15);
        SixStroke alone = of(30, "law over 2 ties 2 goes shared;", 7);
        CHECK.due("alone", alone.stroke(), 5);
        CHECK.due("all goes to the WELL", alone.count(4), 5);
        SixStroke burnt = of(30, "law over 2 ties 2 goes burnt;", 7);
        CHECK.due("alone", burnt.stroke(), 5);
        CHECK.due("all is gone", burnt.count(4), 0);
        has("burnt", burnt, 2);
    }

    // II: "if just one has the least SHOWN and somebody more, he gets from the WELL up to the least SHOWN above his, as far as
    // the WELL has"

    private static void raisedFromTheWell() {
        for (int well = 0; well <= 6; well++) {
            // over 10: the first LOSES just what the WELL shall have
            SixStroke x = of(30, "law over 10 ties 2 goes well;", 18 + well, 8, 4);
            CHECK.due("into the WELL", x.stroke(), well);
            x.law(30, 2, 0, true);
            CHECK.due("nothing is LOST", x.stroke(), 0);
            has("a WELL of " + well, x, 18, 8, 4 + Math.min(4, well));
            CHECK.due("left of " + well, x.count(4), well - Math.min(4, well));
        }
        SixStroke two = of(30, "law over 0 ties 2 goes well least;", 20, 4, 4);
        two.stroke();
        has("two have the least", two, 4, 4, 4);
        CHECK.due("all alike", two.count(4), 16);
        two.have(0, 9);
        two.stroke();
        has("two have the least", two, 4, 4, 4);
        SixStroke alone = of(30, "law over 3 ties 2 goes well least;", 9);
        alone.stroke();
        has("nobody has more", alone, 3);
        SixStroke shown = of(30, "law over 10 ties 2 goes well least;", 20, 6, 9);
        shown.hide(2, 8);
        // SHOWN 20, 6, 1: LOSES 4; the third is raised by 4 of 5
        shown.stroke();
        has("by what is SHOWN", shown, 16, 6, 13);
        CHECK.due("HIDDEN stays", shown.person(2, 1), 8);
        SixStroke thought = of(30, "law over 10 ties 2 goes well least;", 20, 6, 2);
        CHECK.due("in VALUE too: 4 of 4", thought.value(2, 0, 0, 0, -1), 6);
        thought.have(0, 18);
        CHECK.due("in VALUE too: 2 of 4", thought.value(2, 0, 0, 0, -1), 4);
        thought.have(0, 16);
        CHECK.due("in VALUE too: none", thought.value(2, 0, 0, 0, -1), 2);
    }

    // II: "is found, if found is above 0 and a DRAW is below it"; "DRAW: x becomes (1103515245 x + 12345) modulo 2,147,483,648"

    private static BigInteger next(BigInteger x) {
        return x.multiply(BigInteger.valueOf(1103515245)).add(BigInteger.valueOf(12345)).mod(BigInteger.valueOf(2147483648L));
    }

    private static int drawn(BigInteger x) {
        return x.divide(BigInteger.valueOf(65536)).mod(BigInteger.valueOf(100)).intValue();
    }

    private static int seedOfDraw(int draw) {
        int seed = 0;
        while (drawn(next(BigInteger.valueOf(seed))) != draw) {
            seed++;
        }
        return seed;
    }

    private static void foundBelow() {
        for (int found : new int[] {0, 1, 2, 50, 99, 100}) {
            for (int draw : new int[] {0, 1, 2, 49, 50, 51, 98, 99}) {
                SixStroke x = of(20, "law over 30 ties 2 goes well;found " + found + ";", 9, 9);
                x.hide(1, 4);
                x.seed(seedOfDraw(draw));
                CHECK.due("what is found is not LOST", x.stroke(), 0);
                boolean isFound = draw < found;
                CHECK.due("DRAW " + draw + ", found " + found, x.person(1, 1), isFound ? 0 : 4);
                has("DRAW " + draw + ", found " + found, x, 9, isFound ? 5 : 9);
                CHECK.due("in the WELL", x.count(4), isFound ? 4 : 0);
            }
        }
        SixStroke none = of(20, "law over 30 ties 2 goes well;found 100;", 9, 9);
        none.hide(0, 0);
        none.stroke();
        has("nothing HIDDEN", none, 9, 9);
        SixStroke all = of(20, "law over 30 ties 2 goes well;found 100;", 9, 9);
        all.hide(0, 9);
        all.hide(1, 1);
        all.stroke();
        has("all HIDDEN", all, 0, 8);
        CHECK.due("in the WELL", all.count(4), 10);
    }

    private static void drawsWrapAround() {
        int[] seeds = {0, 1, 2, 12345, 65535, 65536, 999_999_999, 1_999_999_999, 2_000_000_000};
        for (int seed : seeds) {
            BigInteger x = BigInteger.valueOf(seed);
            SixStroke town = of(20, "law over 30 ties 2 goes well;found 50;", 9, 9, 9, 9, 9, 9, 9, 9);
            town.seed(seed);
            for (int stroke = 0; stroke < 5; stroke++) {
                for (int p = 0; p < 8; p++) {
                    town.have(p, 9);
                    // each third hides nothing and takes no DRAW
                    town.hide(p, p % 3 == 2 ? 0 : 2);
                }
                town.stroke();
                for (int p = 0; p < 8; p++) {
                    if (p % 3 == 2) {
                        continue;
                    }
                    x = next(x);
                    CHECK.due("seed " + seed + ", STROKE " + stroke + ", person " + p, town.person(p, 0), drawn(x) < 50 ? 7 : 9);
                }
            }
        }
    }

    // II: "who borrowed gives so much, or all that he HAS"

    private static void loansComeBack() {
        for (int left = 0; left <= 7; left++) {
            SixStroke x = of(20, "law over 30 ties 2 goes well;", 10, 2);
            x.lend(0, 1, 5);
            x.have(1, left);
            x.stroke();
            has("left " + left, x, 5 + Math.min(5, left), left - Math.min(5, left));
            CHECK.due("it is over", x.count(5), 0);
        }
        SixStroke six = of(20, "law over 30 ties 2 goes well;", 10, 2);
        for (int i = 0; i < 6; i++) {
            CHECK.due("LOAN " + i, six.lend(0, 1, 1), i + 1);
        }
        CHECK.due("a seventh", six.lend(0, 1, 1), -3);
        six.stroke();
        has("all six come back", six, 10, 2);
        CHECK.due("there may be LOANS again", six.lend(0, 1, 1), 1);
    }

    // III: "SHOWN of q, down to a multiple of within"; "TOP: .. (0, if there are none)"

    private static void downToAMultiple() {
        SixStroke x = of(30, "", 0, 0);
        for (int within = 1; within <= 30; within++) {
            x.sight(0, 1, within);
            for (int shown = 0; shown <= 30; shown++) {
                x.have(1, shown);
                CHECK.due(shown + " within " + within, x.seen(0, 1), shown / within * within);
                CHECK.due("the other way round", x.seen(1, 0), 0);
            }
        }
    }

    private static void topOfNone() {
        SixStroke eats = Check.town("town steps 20;" + Check.person(4, "3 1 1 2 0", "eat"));
        CHECK.due("alone he eats all 7", eats.run(1), 0);
        CHECK.due("GOOD", eats.person(0, 3), 13);
        SixStroke gives = Check.town("town steps 20;" + Check.person(4, "3 1 1 2 0", "match"));
        CHECK.due("alone he gives nothing and loses 7", gives.run(1), 7);
        SixStroke league = Check.town("town steps 20;law over 30 ties 2 goes well;" + Check.person(4, "3 1 1 2 0", "league 0"));
        league.run(1);
        has("a league with himself", league, 7);
        CHECK.due("alone: nobody to give to", league.gifts(0), -1);
        CHECK.due("alone: nobody to break", league.third(0), -1);
        // others who show nothing are there all the same
        SixStroke zero = Check.town("town steps 20;law over 30 ties 2 goes well;" + Check.person(4, "3 1 1 2 0", "match") + Check.person(0, STILL, "work"));
        zero.run(1);
        has("TOP is 0 of one who is there", zero, 4, 3);
    }

    // III: "JOY of eating e: eats, eats less dulls, eats less 2 dulls, .., 0 at least each"

    private static void joyIsNeverBelowNothing() {
        int[][] people = {{0, 0}, {0, 5}, {7, 0}, {7, 3}, {6, 3}, {5, 99}, {99, 99}, {99, 1}, {99, 98}};
        for (int[] one : people) {
            SixStroke x = Check.town("town steps 30;" + Check.person(30, "0 0 0 " + one[0] + " " + one[1], "work") + Check.person(30, STILL, "work"));
            int joy = 0;
            for (int e = 0; e <= 30; e++) {
                CHECK.due("JOY of " + e + " by " + one[0] + " " + one[1], x.value(0, 0, e, 0, -1), joy);
                joy += Math.max(0, one[0] - e * one[1]);
            }
            x.act(0, 0, 30, 0, -1);
            CHECK.due("GOOD of 30", x.person(0, 3), joy - Math.max(0, one[0] - 30 * one[1]));
        }
    }

    // III: "if his SHOWN is above TOP, gives half of the difference, cut"; "if P .. has less SHOWN, gives half of the difference,
    // cut"; eat: "what his SHOWN is above TOP (no more than he HAS)"

    private static void halvesAreCut() {
        String calm = "town steps 20;law over 30 ties 2 goes well;";
        for (int other = 0; other <= 12; other++) {
            int above = Math.max(0, 9 - other);
            SixStroke match = Check.town(calm + Check.person(9, STILL, "match") + Check.person(other, STILL, "work"));
            match.run(1);
            has("match with " + other, match, 9 - above / 2, other + above / 2);
            SixStroke league = Check.town(calm + Check.person(9, STILL, "league 1") + Check.person(other, STILL, "work"));
            league.run(1);
            has("league with " + other, league, 9 - above / 2, other + above / 2);
            SixStroke eat = Check.town(calm + Check.person(9, STILL, "eat") + Check.person(other, STILL, "work"));
            eat.run(1);
            has("eat with " + other, eat, 9 - above, other);
            SixStroke hidden = Check.town(calm + Check.person(9, STILL, "eat") + Check.person(other, STILL, "work"));
            hidden.hide(0, 4);
            hidden.run(1);
            has("eat of what is SHOWN with " + other, hidden, 9 - Math.max(0, 5 - other), other);
        }
    }

    // III: "hides N or all he HAS"

    private static void hidesOrAll() {
        for (int n = 0; n <= 30; n++) {
            SixStroke x = Check.town("town steps 20;law over 30 ties 2 goes well;" + Check.person(5, "2 0 1 0 0", "hide " + n));
            x.run(1);
            CHECK.due("hide " + n + " of 7", x.person(0, 1), Math.min(7, n));
            CHECK.due("HAS", x.person(0, 0), 7);
            SixStroke told = of(20, "", 7);
            CHECK.due("hide() " + n + " of 7", told.hide(0, n), Math.min(7, n));
        }
    }

    // III: "working ahead of not, then the least eaten, the least given, the least to whom; of like ones the first"

    private static void likeOnesTheFirst() {
        SixStroke all = Check.town("town steps 9;" + Check.person(5, "0 0 0 0 0", "best") + Check.person(5, "0 0 0 0 0", "best"));
        int[] nothing = {0, 1, 0, 0, -1};
        for (int what = 0; what < 5; what++) {
            CHECK.due("all alike " + what, all.best(1, what), nothing[what]);
        }
        // the first and the third show 4 each, he 10: 3 to either; the one of the least number
        SixStroke whom = Check.town("town steps 20;" + Check.person(4, STILL, "work") + Check.person(10, "0 1 5 0 0", "best") + Check.person(4, STILL, "work"));
        CHECK.due("the least to whom", whom.best(1, 4), 0);
        whom.have(0, 3);
        // 3 to the third: 7 at 7; to the first 4 would be due: 6 at 7
        CHECK.due("the better to whom", whom.best(1, 4), 2);
        // eating 3 of 10 leaves 7 at 7 and brings 15
        SixStroke eats = Check.town("town steps 20;" + Check.person(7, STILL, "work") + Check.person(10, "0 1 5 5 0", "best"));
        CHECK.due("eats", eats.best(1, 2), 3);
        CHECK.due("gives", eats.best(1, 3), 0);
        CHECK.due("way() the first", all.way(0, 3), 0);
        CHECK.due("plan() the first", all.plan(0, 2, 1) + all.plan(0, 2, 2), 0);
        CHECK.due("laws() the first", all.laws(3), 2);
        CHECK.due("gifts() the first", whom.gifts(0), 1);
    }
}
