/** Promises 52 to 56: IMAGES and SLOTS. */
public final class SlotTest {
    private static final Check CHECK = new Check("SlotTest");

    public static void main(String[] args) {
        images();
        rows();
        writes();
        pastes();
        CHECK.close();
    }

    private static void images() {
        SixStroke x = new SixStroke();
        CHECK.due("keep -1", x.keep(-1), -2);
        CHECK.due("keep 3", x.keep(3), -2);
        CHECK.due("back -1", x.back(-1), -2);
        CHECK.due("back 3", x.back(3), -2);
        CHECK.due("back to nothing", x.back(0), -6);
        CHECK.due("keep nobody", x.keep(0), 0);
        Check.tell(x, "town steps 20; law over 1 ties 3 goes shared least; found 40;" + Check.person(9, "1 1 2 5 1", "work")
                + Check.person(3, "1 1 1 1 1", "hide 2") + "sees 0 1 within 2;");
        x.run(1);
        x.hide(0, 4);
        x.lend(0, 1, 2);
        x.seed(5);
        x.keep(1);
        int[] people = new int[8];
        int[] counts = new int[12];
        for (int i = 0; i < 8; i++) {
            people[i] = x.person(i / 4, i % 4);
        }
        for (int i = 0; i < 12; i++) {
            counts[i] = x.count(i);
        }
        int later = x.run(2) * 1000 + x.person(0, 0) * 10 + x.person(1, 1);
        x.law(0, 2, 2, false);
        x.sight(0, 1, 9);
        x.turnsTo(1, 0);
        x.row(2, 1, 3);
        Check.feed(x, "tow");
        CHECK.due("back to nobody", x.back(0), 0);
        CHECK.due("nobody", x.count(1), 0);
        CHECK.due("no TOWN", x.law(0, 2, 0, false), -2);
        CHECK.due("back", x.back(1), 0);
        for (int i = 0; i < 8; i++) {
            CHECK.due("person " + i, x.person(i / 4, i % 4), people[i]);
        }
        for (int i = 0; i < 12; i++) {
            CHECK.due("count " + i, x.count(i), i == 3 ? 3 : counts[i]);
        }
        CHECK.due("the TAPE stays", x.count(3), 3);
        CHECK.due("SLOTS stay", x.count(12), 1);
        CHECK.due("within", x.sight(0, 1, 2), 2);
        CHECK.due("the same DAYS come, the seed is as it was", x.run(2) * 1000 + x.person(0, 0) * 10 + x.person(1, 1), later);
        CHECK.due("an IMAGE can be gone back to once more", x.back(1), 0);
        CHECK.due("HAS", x.person(0, 0), people[0]);
        Check.tell(x, "town steps");
        x.back(1);
        CHECK.due("the FAULT stays", x.fault(1), 10);
        x.have(0, 1);
        x.keep(1);
        x.have(0, 2);
        x.back(1);
        CHECK.due("a later keep is in place of the earlier", x.person(0, 0), 1);
        CHECK.due("the third IMAGE has nothing", x.back(2), -6);
    }

    private static void rows() {
        SixStroke x = new SixStroke();
        CHECK.due("SLOT -1", x.row(-1, 0, 1), -2);
        CHECK.due("SLOT 4", x.row(4, 0, 1), -2);
        CHECK.due("WIDTH -1", x.row(0, -1, 1), -2);
        CHECK.due("WIDTH 4", x.row(0, 4, 1), -2);
        CHECK.due("61 numbers", x.row(0, 0, 61), -2);
        CHECK.due("a great many", x.row(0, 0, Integer.MAX_VALUE), -2);
        CHECK.due("below 0", x.row(0, 0, -1), -3);
        CHECK.due("far below 0", x.row(0, 0, Integer.MIN_VALUE), -3);
        CHECK.due("no SLOT, below 0", x.row(9, 0, -1), -2);
        CHECK.due("still none", x.count(12), 0);
        CHECK.due("60 numbers", x.row(0, 3, 60), 0);
        CHECK.due("no number", x.row(1, 0, 0), 0);
        CHECK.due("two rows", x.count(12), 2);
        CHECK.due("in place of another", x.row(0, 0, 2), 0);
        CHECK.due("still two", x.count(12), 2);
        CHECK.due("write 2 of two", x.write(0, 2, 1), -7);
        CHECK.due("below 0, the SLOT stays", x.row(0, 1, -5), -3);
        CHECK.due("write 1 of two", x.write(0, 1, 1), 0);
    }

    /** A SLOT's numbers are told by judge(): an ACT of person 0 that eats so much. */
    private static SixStroke withRow(int width, long eaten) {
        SixStroke x = Check.town("town steps 30;" + Check.person(30, "1 1 1 1 1", "work"));
        x.row(0, width, 5);
        x.write(0, 2, eaten);
        x.write(0, 4, -1);
        return x;
    }

    private static void writes() {
        SixStroke x = new SixStroke();
        CHECK.due("SLOT -1", x.write(-1, 0, 1), -2);
        CHECK.due("SLOT 4", x.write(4, 0, 1), -2);
        CHECK.due("nothing there", x.write(0, 0, 1), -6);
        x.row(0, 0, 3);
        CHECK.due("number -1", x.write(0, -1, 1), -7);
        CHECK.due("number 3", x.write(0, 3, 1), -7);
        CHECK.due("number 2", x.write(0, 2, 1), 0);
        x.row(1, 0, 0);
        CHECK.due("no number", x.write(1, 0, 1), -7);
        long[] beyond = {256L, 65536L, 4294967296L, 4294967296L * 4294967296L};
        for (int width = 0; width < 4; width++) {
            CHECK.due("30 of WIDTH " + width, withRow(width, 30).judge(0), 1);
            CHECK.due("31 of WIDTH " + width, withRow(width, 31).judge(0), 0);
            CHECK.due("cut to WIDTH " + width, withRow(width, beyond[width] + 3).judge(0), 1);
            CHECK.due("its highest bit is a sign " + width, withRow(width, 1L << ((8 << width) - 1)).judge(0), 0);
        }
        SixStroke anew = withRow(0, 3);
        anew.write(0, 0, 7);
        CHECK.due("no person 7", anew.judge(0), 0);
        anew.row(0, 0, 5);
        anew.write(0, 4, -1);
        CHECK.due("a new row is all 0", anew.judge(0), 1);
        anew.write(0, 2, 99);
        anew.row(0, 2, 5);
        anew.write(0, 4, -1);
        CHECK.due("all of it", anew.judge(0), 1);
        CHECK.due("256 is itself in two bytes", withRow(1, 259).judge(0), 0);
        CHECK.due("65536 in four", withRow(2, 65539).judge(0), 0);
        CHECK.due("2 to the 32nd in eight", withRow(3, 4294967299L).judge(0), 0);
    }

    private static void pastes() {
        SixStroke x = Check.town("town steps 30;" + Check.person(10, "1 1 1 1 1", "work") + Check.person(0, "1 1 1 1 1", "work"));
        CHECK.due("nothing there", x.paste(0, 0, 1, 0, 0), -6);
        x.row(0, 1, 10);
        CHECK.due("one has nothing", x.paste(0, 0, 1, 0, 0), -6);
        CHECK.due("the other has nothing", x.paste(1, 0, 0, 0, 0), -6);
        x.row(1, 0, 10);
        CHECK.due("unlike WIDTHS", x.paste(0, 0, 1, 0, 1), -8);
        CHECK.due("unlike WIDTHS and beyond", x.paste(0, -1, 1, 99, 1), -8);
        CHECK.due("no such SLOT", x.paste(-1, 0, 1, 0, 1), -2);
        CHECK.due("no such SLOT", x.paste(0, 0, 4, 0, 1), -2);
        x.row(1, 1, 5);
        CHECK.due("place below 0", x.paste(0, -1, 1, 0, 1), -7);
        CHECK.due("place below 0", x.paste(0, 0, 1, -1, 1), -7);
        CHECK.due("n below 0", x.paste(0, 0, 1, 0, -1), -7);
        CHECK.due("beyond the first", x.paste(0, 8, 1, 0, 3), -7);
        CHECK.due("beyond the second", x.paste(0, 0, 1, 3, 3), -7);
        CHECK.due("beyond all", x.paste(0, 1, 1, 1, Integer.MAX_VALUE), -7);
        CHECK.due("none at the end", x.paste(0, 10, 1, 5, 0), 0);
        // an ACT that eats 4 and gives 1 to the other one, told in SLOT 0, goes to SLOT 1
        long[] act = {0, 0, 4, 1, 1};
        for (int i = 0; i < 5; i++) {
            x.write(0, i, act[i]);
        }
        CHECK.due("SLOT 1 is all 0: no ACT gives 0 to 0", x.judge(1), 0);
        CHECK.due("paste", x.paste(0, 0, 1, 0, 5), 0);
        CHECK.due("it is an ACT now", x.judge(1), 1);
        CHECK.due("what was there stays", x.judge(0), 1);
        CHECK.due("its own row", x.paste(0, 0, 0, 5, 5), 0);
        CHECK.due("both ACTS", x.judge(0), 2);
        CHECK.due("over itself, as they were", x.paste(0, 0, 0, 1, 5), 0);
        CHECK.due("back again", x.paste(0, 1, 0, 0, 5), 0);
        CHECK.due("the first is as it was", x.judge(0), 1);
        x.row(2, 1, 5);
        CHECK.due("beyond, and nothing happens", x.paste(2, 0, 0, 6, 5), -7);
        CHECK.due("the first is as it was", x.judge(0), 1);
    }
}
