/** Promises 1 to 5, and 51 as far as the TAPE goes: bytes, LINES and FAULTS. */
public final class TapeTest {
    private static final Check CHECK = new Check("TapeTest");
    private static final String TOWN = "town steps 20;";
    private static final String MAN = "person has 1 brings 1 tires 1 worth 1 eats 1 dulls 1 work;";

    public static void main(String[] args) {
        newObject();
        feedAndEnd();
        lines();
        faultsOfTokens();
        faultsOfNumbers();
        faultsOfLines();
        tokensWithoutBlanks();
        newTownInPlaceOfAnother();
        faultLeavesAll();
        CHECK.close();
    }

    private static void newObject() {
        SixStroke x = new SixStroke();
        for (int what = 0; what < 13; what++) {
            CHECK.due("count " + what + " of a new object", x.count(what), what == 8 ? 2 : 0);
        }
        CHECK.due("count below", x.count(-1), -1);
        CHECK.due("count above", x.count(13), -1);
        CHECK.due("fault 0 ahead of any town", x.fault(0), 0);
        CHECK.due("fault 1 ahead of any town", x.fault(1), -1);
        CHECK.due("fault 2", x.fault(2), -1);
        CHECK.due("fault -1", x.fault(-1), -1);
        CHECK.due("nobody", x.person(0, 0), -2);
        CHECK.due("nobody strikes", x.stroke(), -2);
    }

    private static void feedAndEnd() {
        SixStroke x = new SixStroke();
        CHECK.due("feed", x.feed(0x746f776e, 0x20737465, 0x70732035, 0x3b000000, -1), 20);
        CHECK.due("bytes", x.count(3), 20);
        CHECK.due("end of all", x.end(20), 20);
        CHECK.due("end beyond", x.end(21), -1);
        CHECK.due("end below 0", x.end(-1), -1);
        CHECK.due("bytes stay", x.count(3), 20);
        CHECK.due("end", x.end(13), 13);
        CHECK.due("highest byte first: town steps 5;", x.town(), 1);
        CHECK.due("steps", x.count(0), 5);
        for (int i = 1; i <= 80; i++) {
            CHECK.due("feed " + i, x.feed(0, 0, 0, 0, 0), 20 * i);
        }
        CHECK.due("feed beyond 1,600", x.feed(0, 0, 0, 0, 0), -1);
        CHECK.due("none came", x.count(3), 1600);
        CHECK.due("end 1581", x.end(1581), 1581);
        CHECK.due("1,601 would be too many", x.feed(0, 0, 0, 0, 0), -1);
        CHECK.due("end 1580", x.end(1580), 1580);
        CHECK.due("1,600 are not", x.feed(0, 0, 0, 0, 0), 1600);
        CHECK.due("end 0", x.end(0), 0);
        CHECK.due("an empty TAPE is no FAULT", x.town(), 0);
    }

    private static void lines() {
        SixStroke x = new SixStroke();
        CHECK.due("town alone", Check.tell(x, "town steps 5;"), 1);
        CHECK.due("ties without law", x.count(8), 2);
        CHECK.due("all kinds of LINES", Check.tell(x, "\n town steps 30 ;found 100; law over 30 ties 4 goes burnt least;"
                + "person has 30 brings 9 tires 99 worth 99 eats 99 dulls 99 hide 30;" + MAN
                + "person has 0 brings 0 tires 0 worth 0 eats 0 dulls 0 league 7;sees 0 1 within 30;"), 7);
        int[] want = {30, 3, 7, 0, 0, 0, 0, 30, 4, 2, 1, 100, 0};
        for (int what = 0; what < want.length; what++) {
            CHECK.due("count " + what, x.count(what), want[what]);
        }
        CHECK.due("fault 0 without", x.fault(0), 0);
        CHECK.due("fault 1 without", x.fault(1), -1);
        CHECK.due("blanks alone", Check.tell(x, " \n \n"), 0);
        CHECK.due("no TOWN then", x.law(0, 2, 0, false), -2);
        String[] ways = {"eat", "match", "league 0", "hide 0", "work", "best"};
        for (int way = 0; way < 6; way++) {
            Check.tell(x, TOWN + Check.person(3, "1 1 1 1 1", ways[way]));
            CHECK.due("WAY " + ways[way], x.person(0, 2), way);
        }
        String[] goes = {"well", "shared", "burnt"};
        for (int g = 0; g < 3; g++) {
            Check.tell(x, TOWN + "law over 1 ties 3 goes " + goes[g] + ";");
            CHECK.due("GOES " + goes[g], x.count(9), g);
            CHECK.due("without least", x.count(10), 0);
        }
        Check.tell(x, TOWN + MAN + MAN + "sees 0 1 within 5;sees 0 1 within 7;sees 1 0 within 2;");
        CHECK.due("a later sees strikes", x.sight(0, 1, 1), 7);
        CHECK.due("the other way round is its own", x.sight(1, 0, 1), 2);
    }

    private static void fault(String text, int kind, int place) {
        SixStroke x = new SixStroke();
        CHECK.due("town of " + text, Check.tell(x, text), -4);
        CHECK.due("fault of " + text, x.fault(0), kind);
        CHECK.due("place in " + text, x.fault(1), place);
    }

    private static void faultsOfTokens() {
        fault("Town steps 5;", 1, 0);
        fault("town steps 5; #", 1, 14);
        fault("town\tsteps 5;", 1, 4);
        fault("town steps 5;\r", 1, 13);
        fault("town steps 5;" + (char) 233, 1, 13);
        fault("town steps 5;\0", 1, 13);
        fault("towns steps 5;", 1, 0);
        fault("townz steps 5;", 1, 0);
        fault("atown steps 5;", 1, 0);
        fault("town step 5;", 1, 5);
        fault("town steps five;", 1, 11);
        fault("town steps -5;", 1, 11);
        fault("law over 0 ties 2 goes well;", 1, 0);
        fault("town steps 5; town steps 5;", 1, 14);
        fault(";", 1, 0);
        fault("town steps 5;;", 1, 13);
        fault("7", 1, 0);
        fault("town steps 5; 7;", 1, 14);
        fault("town", 1, 4);
        fault("town steps 5", 1, 12);
        fault("town steps 5 \n ", 1, 15);
        fault("town steps 5 law", 1, 13);
        fault(TOWN + "law over 0 ties 2 goes;", 1, 36);
        fault(TOWN + "law over 0 ties 2 goes least;", 1, 37);
        fault(TOWN + "law over 0 ties 2 goes well most;", 1, 42);
        fault(TOWN + "law over 0 ties 2 goes well least least;", 1, 48);
        fault(TOWN + "person has 1 brings 1 tires 1 worth 1 eats 1 dulls 1;", 1, 66);
        fault(TOWN + "person has 1 brings 1 tires 1 worth 1 eats 1 dulls 1 rest;", 1, 67);
        fault(TOWN + "person has 1 brings 1 tires 1 worth 1 eats 1 dulls 1 hide;", 1, 71);
        fault(TOWN + "person has 1 brings 1 tires 1 worth 1 eats 1 dulls 1 eat 3;", 1, 71);
        fault(TOWN + "person has 1 tires 1", 1, 27);
        fault(TOWN + "found;", 1, 19);
    }

    private static void faultsOfNumbers() {
        fault("town steps 4;", 2, 11);
        fault("town steps 31;", 2, 11);
        fault("town steps 99999999999999999999999999;", 2, 11);
        fault("town steps 4294967301;", 2, 11);
        fault(TOWN + "law over 31 ties 2 goes well;", 2, 23);
        fault(TOWN + "law over 0 ties 1 goes well;", 2, 30);
        fault(TOWN + "law over 0 ties 5 goes well;", 2, 30);
        fault(TOWN + "found 101;", 2, 20);
        fault(TOWN + "person has 21 ", 2, 25);
        fault(TOWN + "person has 20 brings 10 ", 2, 35);
        fault(TOWN + "person has 20 brings 9 tires 100", 2, 43);
        fault(TOWN + "person has 20 brings 9 tires 99 worth 100", 2, 52);
        fault(TOWN + "person has 20 brings 9 tires 99 worth 99 eats 100", 2, 60);
        fault(TOWN + "person has 20 brings 9 tires 99 worth 99 eats 99 dulls 100", 2, 69);
        fault(TOWN + "person has 1 brings 1 tires 1 worth 1 eats 1 dulls 1 hide 31;", 2, 72);
        fault(TOWN + "person has 1 brings 1 tires 1 worth 1 eats 1 dulls 1 league 8;", 2, 74);
        int two = TOWN.length() + 2 * MAN.length();
        fault(TOWN + MAN + MAN + "sees 0 0 within 3;", 2, two + 7);
        fault(TOWN + MAN + MAN + "sees 2 0 within 3;", 2, two + 5);
        fault(TOWN + MAN + MAN + "sees 0 2 within 3;", 2, two + 7);
        fault(TOWN + MAN + MAN + "sees 0 1 within 0;", 2, two + 16);
        fault(TOWN + MAN + MAN + "sees 0 1 within 31;", 2, two + 16);
        fault(TOWN + MAN + MAN + "sees 0 within 3;", 1, two + 7);
        fault(TOWN + "sees 0 1 within 3;" + MAN + MAN, 2, TOWN.length() + 5);
        SixStroke x = new SixStroke();
        CHECK.due("within 1", Check.tell(x, TOWN + MAN + MAN + "sees 0 1 within 1;"), 4);
        CHECK.due("zeros ahead", Check.tell(x, "town steps 0000000000000000000020;"), 1);
        CHECK.due("steps", x.count(0), 20);
    }

    private static void faultsOfLines() {
        String law = "law over 0 ties 2 goes well;";
        fault(TOWN + law + law, 2, TOWN.length() + law.length());
        fault(TOWN + "found 0;found 0;", 2, TOWN.length() + 8);
        fault(TOWN + law + "law town", 2, TOWN.length() + law.length());
        String eight = TOWN + MAN.repeat(8);
        SixStroke x = new SixStroke();
        CHECK.due("eight people", Check.tell(x, eight), 9);
        CHECK.due("all eight", x.count(1), 8);
        fault(eight + MAN, 3, eight.length());
        fault(eight + "person", 3, eight.length());
        String twelve = TOWN + MAN + MAN + "sees 0 1 within 3;".repeat(12);
        CHECK.due("twelve sees", Check.tell(x, twelve), 15);
        CHECK.due("twelve more in another TOWN", Check.tell(x, twelve), 15);
        fault(twelve + "sees 0 1 within 3;", 3, twelve.length());
        fault(twelve + " sees", 3, twelve.length() + 1);
    }

    private static void tokensWithoutBlanks() {
        SixStroke x = new SixStroke();
        CHECK.due("words and numbers part by themselves", Check.tell(x, "town steps6;found7;person has2brings3tires4worth5eats6dulls7hide8;"), 3);
        CHECK.due("steps", x.count(0), 6);
        CHECK.due("found", x.count(11), 7);
        CHECK.due("has", x.person(0, 0), 2);
        fault("townsteps 5;", 1, 0);
        Check.feed(x, "town steps 5;foundx");
        x.end(18);
        CHECK.due("what was cut off", x.town(), -4);
        CHECK.due("is not read", x.fault(1), 18);
        CHECK.due("a full TAPE", Check.tell(x, "a".repeat(1600)), -4);
        CHECK.due("is one word", x.fault(1), 0);
        CHECK.due("a full TAPE", Check.tell(x, TOWN + " ".repeat(1600 - TOWN.length() - 5) + "found"), -4);
        CHECK.due("has its end at 1,600", x.fault(1), 1600);
        fault("town steps 1 0;", 2, 11);
        fault("town steps 10 0;", 1, 14);
    }

    private static void newTownInPlaceOfAnother() {
        SixStroke x = Check.town(TOWN + "law over 2 ties 3 goes well;found 50;" + Check.person(9, "1 1 2 1 1", "work")
                + Check.person(3, "1 1 1 1 1", "work") + "sees 0 1 within 3;");
        x.run(2);
        x.hide(0, 2);
        x.lend(0, 1, 1);
        x.seed(77);
        CHECK.due("DAYS gone", x.count(6), 2);
        Check.tell(x, "town steps 10;" + Check.person(4, "1 1 1 1 1", "hide 3") + Check.person(4, "1 1 1 1 1", "work") + "found 1;");
        int[] want = {10, 2, 4, 0, 0, 0, 0, 0, 2, 0, 0, 1, 0};
        for (int what = 0; what < want.length; what++) {
            CHECK.due("count " + what + " of the new TOWN", x.count(what), want[what]);
        }
        Check.tell(x, TOWN + "law over 2 ties 4 goes shared least;found 50;" + MAN);
        Check.tell(x, "town steps 10;" + Check.person(4, "1 1 1 1 1", "hide 3") + Check.person(4, "1 1 1 1 1", "work"));
        for (int what = 7; what < 12; what++) {
            CHECK.due("count " + what + " without law and found", x.count(what), what == 8 ? 2 : 0);
        }
        Check.tell(x, "town steps 10;" + Check.person(4, "1 1 1 1 1", "hide 3") + Check.person(4, "1 1 1 1 1", "work") + "found 1;");
        CHECK.due("nothing HIDDEN", x.person(0, 1), 0);
        CHECK.due("GOOD 0", x.person(0, 3), 0);
        CHECK.due("sees of the old one are gone", x.sight(0, 1, 1), 1);
        x.hide(0, 4);
        x.stroke();
        CHECK.due("the seed was 0 again: the first DRAW is 0, so he is found", x.person(0, 1), 0);
    }

    private static void faultLeavesAll() {
        SixStroke x = Check.town(TOWN + Check.person(9, "1 1 2 1 1", "work"));
        x.run(1);
        CHECK.due("a FAULT", Check.tell(x, "town steps 5; person"), -4);
        CHECK.due("the TAPE stays", x.count(3), 20);
        CHECK.due("the TOWN stays", x.count(0), 20);
        CHECK.due("DAYS stay", x.count(6), 1);
        CHECK.due("again", x.town(), -4);
        CHECK.due("its place", x.fault(1), 20);
        x.end(13);
        CHECK.due("cut, it is a TOWN", x.town(), 1);
        CHECK.due("its FAULT is gone", x.fault(1), -1);
        CHECK.due("the TAPE is empty", x.count(3), 0);
    }
}
