import java.util.ArrayList;
import java.util.List;

/**
 * Every bound that the document tells for a number of a call: the least and the greatest that may be are taken, what is
 * beyond is refused with the answer that the document names, and a refused call changes nothing at all.
 */
public final class RefusalTest {
    private static final Check CHECK = new Check("RefusalTest");
    private static final int NOTHING = Check.NOTHING;

    /** A call with one of its numbers left open. */
    private interface Call {
        int of(SixStroke x, int n);
    }

    /** A call that is whole. */
    private interface Whole {
        int of(SixStroke x);
    }

    public static void main(String[] args) {
        persons();
        pairs();
        days();
        whats();
        amounts();
        slots();
        acts();
        loansAndImages();
        nobody();
        CHECK.close();
    }

    /** Three people with something HIDDEN, a LOAN, a seed, an IMAGE, rows, a FAULT told and a TAPE begun. */
    private static SixStroke rich() {
        SixStroke x = Check.town("town steps 20;law over 1 ties 2 goes shared least;found 50;"
                + Check.person(10, "3 2 5 8 3", "hide 4") + Check.person(7, "2 1 4 6 2", "best")
                + Check.person(12, "1 3 6 4 1", "league 0") + "sees 1 0 within 3;");
        x.keep(0);
        x.seed(777);
        x.run(2);
        x.hide(1, 2);
        x.have(0, 9);
        x.have(2, 11);
        x.lend(2, 0, 3);
        x.sight(2, 1, 4);
        int[] ways = {4, 3, 0, 5, 1, 2, 0};
        row(x, 0, 0, ways);
        row(x, 1, 1, new int[] {0, 1, 2, 1, 1});
        x.row(3, 0, 0);
        Check.tell(x, "town steps 4;");
        Check.tell(x, "town steps 31;");
        x.end(0);
        Check.feed(x, "town steps 9;found 8;");
        return x;
    }

    private static void row(SixStroke x, int slot, int width, int[] numbers) {
        x.row(slot, width, numbers.length);
        for (int i = 0; i < numbers.length; i++) {
            x.write(slot, i, numbers[i]);
        }
    }

    private static void people(SixStroke x, List<Integer> told) {
        for (int p = 0; p < 8; p++) {
            for (int what = 0; what < 4; what++) {
                told.add(x.person(p, what));
            }
            for (int q = 0; q < 3; q++) {
                told.add(x.seen(p, q));
            }
            told.add(x.best(p, 0));
            told.add(x.total(p, 3, 2));
            told.add(x.total(p, 2, 2));
        }
        for (int what = 0; what < 13; what++) {
            told.add(x.count(what));
        }
    }

    /** All that can be heard of an object, the seed, LOANS, rows, IMAGES and the TAPE by what comes of them. */
    private static List<Integer> probe(SixStroke x) {
        List<Integer> told = new ArrayList<>();
        told.add(x.fault(0));
        told.add(x.fault(1));
        people(x, told);
        for (int slot = 0; slot < 4; slot++) {
            told.add(x.judge(slot));
            told.add(x.follows(0, slot));
            told.add(x.write(slot, 6, 5));
            told.add(x.paste(slot, 0, 0, 0, 0));
        }
        told.add(x.run(2));
        people(x, told);
        for (int p = 0; p < 3; p++) {
            for (int q = 0; q < 3; q++) {
                told.add(x.sight(p, q, 1));
            }
        }
        for (int k = 0; k < 3; k++) {
            told.add(x.back(k));
            people(x, told);
        }
        told.add(x.town());
        people(x, told);
        return told;
    }

    private static void refused(String what, int want, Whole call) {
        SixStroke x = rich();
        CHECK.due(what, call.of(x), want);
        CHECK.due(what + " changed something", probe(x).equals(probe(rich())) ? 0 : 1, 0);
    }

    private static void taken(String what, int refusal, Whole call) {
        CHECK.due(what + " was refused", call.of(rich()) == refusal ? 1 : 0, 0);
    }

    /** low .. high are taken, all else is refused with this answer. */
    private static void bounds(String what, int low, int high, int refusal, Call call) {
        int[] beyond = {low - 1, high + 1, Integer.MIN_VALUE, Integer.MAX_VALUE};
        for (int n : beyond) {
            refused(what + " " + n, refusal, x -> call.of(x, n));
        }
        for (int n : new int[] {low, high}) {
            taken(what + " " + n, refusal, x -> call.of(x, n));
        }
    }

    private static void persons() {
        bounds("person of", 0, 2, -2, (x, p) -> x.person(p, 0));
        bounds("have of", 0, 2, -2, (x, p) -> x.have(p, 5));
        bounds("hide of", 0, 2, -2, (x, p) -> x.hide(p, 5));
        bounds("loses of", 0, 2, -2, (x, p) -> x.loses(p));
        bounds("act of", 0, 2, -2, (x, p) -> x.act(p, 0, 1, 0, -1));
        bounds("value of", 0, 2, NOTHING, (x, p) -> x.value(p, 0, 1, 0, -1));
        bounds("best 0 of", 0, 2, NOTHING, (x, p) -> x.best(p, 0));
        for (int what = 1; what < 5; what++) {
            int w = what;
            bounds("best " + w + " of", 0, 2, -2, (x, p) -> x.best(p, w));
        }
        bounds("gifts of", 0, 2, -2, (x, p) -> x.gifts(p));
        bounds("total of", 0, 2, NOTHING, (x, p) -> x.total(p, 1, 1));
        bounds("way of", 0, 2, -2, (x, p) -> x.way(p, 1));
        bounds("turnsTo of", 0, 2, -2, (x, p) -> x.turnsTo(p, 1));
        bounds("third of", 0, 2, -2, (x, p) -> x.third(p));
        bounds("know of", 0, 2, NOTHING, (x, p) -> x.know(p));
        bounds("hides of", 0, 2, NOTHING, (x, p) -> x.hides(p, 1));
        bounds("edge of", 0, 2, -2, (x, p) -> x.edge(p, 1));
        bounds("pays of", 0, 2, -2, (x, p) -> x.pays(p, 1));
        bounds("follows of", 0, 2, NOTHING, (x, p) -> x.follows(p, 0));
        bounds("plan of", 0, 2, NOTHING, (x, p) -> x.plan(p, 1, 0));
    }

    /** A call of two people, the second of whom is 1 or the first 1. */
    private interface Pair {
        int of(SixStroke x, int p, int q);
    }

    private static void pair(String what, int refusal, Pair call) {
        for (int p : new int[] {-1, 3, Integer.MIN_VALUE, Integer.MAX_VALUE}) {
            refused(what + " of " + p + " and 1", refusal, x -> call.of(x, p, 1));
            refused(what + " of 1 and " + p, refusal, x -> call.of(x, 1, p));
        }
        for (int p = 0; p < 3; p++) {
            int same = p;
            refused(what + " of one twice: " + p, refusal, x -> call.of(x, same, same));
        }
        refused(what + " of none twice", refusal, x -> call.of(x, 3, 3));
        for (int p = 0; p < 3; p += 2) {
            int other = p;
            taken(what + " of " + p + " and 1", refusal, x -> call.of(x, other, 1));
            taken(what + " of 1 and " + p, refusal, x -> call.of(x, 1, other));
        }
    }

    private static void pairs() {
        pair("seen", -2, (x, p, q) -> x.seen(p, q));
        pair("sight", -2, (x, p, q) -> x.sight(p, q, 5));
        pair("gift", -2, (x, p, q) -> x.gift(p, q));
        pair("leaves", -2, (x, p, q) -> x.leaves(p, q));
        pair("breaks", -2, (x, p, q) -> x.breaks(p, q));
        pair("knows", NOTHING, (x, p, q) -> x.knows(p, q));
        pair("lend", -2, (x, p, q) -> x.lend(p, q, 2));
        pair("round", -2, (x, p, q) -> x.round(p, q));
        pair("duel", -2, (x, p, q) -> x.duel(p, q));
        pair("mixed", -2, (x, p, q) -> x.mixed(p, q));
    }

    private static void days() {
        bounds("run", 1, 30, -2, (x, n) -> x.run(n));
        bounds("total in", 1, 30, NOTHING, (x, n) -> x.total(0, 1, n));
        bounds("way in", 1, 30, -2, (x, n) -> x.way(0, n));
        bounds("idle", 1, 30, -2, (x, n) -> x.idle(n));
        for (int what = 0; what < 5; what++) {
            int w = what;
            bounds("beside " + w + " in", 1, 30, NOTHING, (x, n) -> x.beside(n, w));
        }
        bounds("laws", 1, 30, -2, (x, n) -> x.laws(n));
        bounds("pays in", 1, 30, -2, (x, n) -> x.pays(0, n));
        bounds("quiet 0 in", 1, 30, -2, (x, n) -> x.quiet(n, 0));
        bounds("quiet 1 in", 1, 30, -2, (x, n) -> x.quiet(n, 1));
        bounds("again", 1, 30, -2, (x, n) -> x.again(n));
        bounds("alike", 1, 30, -2, (x, n) -> x.alike(n));
        bounds("plan in", 1, 3, NOTHING, (x, n) -> x.plan(0, n, 0));
        bounds("rests", 1, 6, -2, (x, k) -> x.rests(k));
    }

    private static void whats() {
        bounds("fault", 0, 1, -1, (x, what) -> x.fault(what));
        bounds("person 0 by", 0, 3, -2, (x, what) -> x.person(0, what));
        bounds("best of 0 by", 0, 4, -2, (x, what) -> x.best(1, what));
        refused("best of nobody by 5", -2, x -> x.best(3, 5));
        refused("best of nobody by -1", -2, x -> x.best(-1, -1));
        bounds("total by WAY", 0, 5, NOTHING, (x, way) -> x.total(0, way, 1));
        bounds("turnsTo WAY", 0, 5, -2, (x, way) -> x.turnsTo(0, way));
        bounds("beside by", 0, 4, NOTHING, (x, what) -> x.beside(1, what));
        bounds("quiet by", 0, 1, -2, (x, what) -> x.quiet(1, what));
        for (int n = 1; n <= 3; n++) {
            int many = n;
            bounds("plan of " + n + " by", 0, n, NOTHING, (x, what) -> x.plan(0, many, what));
        }
        bounds("count", 0, 12, -1, (x, what) -> x.count(what));
    }

    private static void amounts() {
        bounds("end", 0, 21, -1, (x, n) -> x.end(n));
        bounds("have", 0, 20, -2, (x, n) -> x.have(0, n));
        bounds("hide", 0, 30, -2, (x, n) -> x.hide(0, n));
        bounds("sight", 1, 30, -2, (x, n) -> x.sight(0, 1, n));
        bounds("law over", 0, 30, -2, (x, n) -> x.law(n, 3, 2, false));
        bounds("law ties", 2, 4, -2, (x, n) -> x.law(2, n, 2, false));
        bounds("law goes", 0, 2, -2, (x, n) -> x.law(2, 3, n, false));
        bounds("lend", 1, 30, -2, (x, n) -> x.lend(0, 1, n));
        CHECK.due("he HAS", rich().person(0, 0), 12);
        bounds("hides", 0, 12, NOTHING, (x, n) -> x.hides(0, n));
        bounds("edge", 0, 12, -2, (x, n) -> x.edge(0, n));
        bounds("seed", 0, 2_000_000_000, -2, (x, v) -> x.seed(v));
    }

    private static void slots() {
        bounds("judge", 0, 3, -2, (x, slot) -> x.judge(slot));
        for (int slot : new int[] {-1, 4, Integer.MIN_VALUE, Integer.MAX_VALUE}) {
            refused("follows SLOT " + slot, NOTHING, x -> x.follows(0, slot));
        }
        refused("follows a SLOT that has nothing", NOTHING, x -> x.follows(0, 2));
        refused("follows a row of no number", NOTHING, x -> x.follows(0, 3));
        refused("judge of nothing", -6, x -> x.judge(2));
        bounds("row of SLOT", 0, 3, -2, (x, slot) -> x.row(slot, 0, 3));
        bounds("row of WIDTH", 0, 3, -2, (x, width) -> x.row(0, width, 3));
        for (int n : new int[] {61, 62, Integer.MAX_VALUE}) {
            refused("row of " + n, -2, x -> x.row(0, 0, n));
        }
        for (int n : new int[] {-1, -2, -60, Integer.MIN_VALUE}) {
            refused("row of " + n, -3, x -> x.row(0, 0, n));
            refused("row of " + n + " in no SLOT", -2, x -> x.row(4, 0, n));
            refused("row of " + n + " of no WIDTH", -2, x -> x.row(0, -1, n));
        }
        CHECK.due("row of 0", rich().row(0, 0, 0), 0);
        CHECK.due("row of 60", rich().row(0, 3, 60), 0);
        for (int slot : new int[] {-1, 4, Integer.MIN_VALUE, Integer.MAX_VALUE}) {
            refused("write in SLOT " + slot, -2, x -> x.write(slot, 0, 1));
            refused("paste from SLOT " + slot, -2, x -> x.paste(slot, 0, 0, 0, 1));
            refused("paste to SLOT " + slot, -2, x -> x.paste(0, 0, slot, 0, 1));
        }
        refused("write in nothing", -6, x -> x.write(2, 0, 1));
        refused("write in nothing, beyond", -6, x -> x.write(2, -1, 1));
        bounds("write number", 0, 6, -7, (x, i) -> x.write(0, i, 1));
        refused("write in a row of none", -7, x -> x.write(3, 0, 1));
        refused("paste from nothing", -6, x -> x.paste(2, 0, 0, 0, 1));
        refused("paste to nothing", -6, x -> x.paste(0, 0, 2, 0, 1));
        refused("paste from nothing, beyond", -6, x -> x.paste(2, -1, 0, 0, -1));
        refused("paste to another WIDTH", -8, x -> x.paste(0, 0, 1, 0, 1));
        refused("paste to another WIDTH, beyond", -8, x -> x.paste(0, 9, 1, 9, 9));
        refused("paste to another WIDTH, below 0", -8, x -> x.paste(0, -1, 1, -1, -1));
        bounds("paste n", 0, 5, -7, (x, n) -> x.paste(0, 1, 0, 2, n));
        bounds("paste of one from", 0, 6, -7, (x, i) -> x.paste(0, i, 0, 3, 1));
        bounds("paste of one to", 0, 6, -7, (x, k) -> x.paste(0, 3, 0, k, 1));
        bounds("paste of three from", 0, 4, -7, (x, i) -> x.paste(0, i, 0, 1, 3));
        bounds("paste of three to", 0, 4, -7, (x, k) -> x.paste(0, 1, 0, k, 3));
        refused("paste of more than wraps around", -7, x -> x.paste(0, 1, 0, 1, Integer.MAX_VALUE));
        refused("paste from where it wraps around", -7, x -> x.paste(0, Integer.MAX_VALUE, 0, 1, 1));
        refused("paste to where it wraps around", -7, x -> x.paste(0, 1, 0, Integer.MAX_VALUE, 2));
        refused("paste to a row of none", -7, x -> x.paste(0, 0, 3, 0, 1));
        CHECK.due("paste of none to a row of none", rich().paste(0, 0, 3, 0, 0), 0);
    }

    private static void acts() {
        bounds("act by work", 0, 1, -2, (x, work) -> x.act(0, work, 1, 0, -1));
        bounds("value by work", 0, 1, NOTHING, (x, work) -> x.value(0, work, 1, 0, -1));
        for (int n : new int[] {-1, -20, Integer.MIN_VALUE}) {
            refused("act that eats " + n, -2, x -> x.act(0, 0, n, 0, -1));
            refused("act that gives " + n, -2, x -> x.act(0, 0, 0, n, 1));
            refused("act that gives " + n + " to nobody", -2, x -> x.act(0, 0, 0, n, -1));
            refused("value of eating " + n, NOTHING, x -> x.value(0, 0, n, 0, -1));
            refused("value of giving " + n, NOTHING, x -> x.value(0, 0, 0, n, 1));
        }
        // he HAS 12, and work brings 3
        for (int n : new int[] {13, 16, Integer.MAX_VALUE}) {
            refused("act that eats " + n, -5, x -> x.act(0, 0, n, 0, -1));
            refused("act that gives " + n, -5, x -> x.act(0, 0, 0, n, 1));
            refused("act that eats 1 and gives " + n, -5, x -> x.act(0, 0, 1, n, 1));
            refused("act that eats " + n + " and gives as much", -5, x -> x.act(0, 0, n, n, 1));
            refused("value of eating " + n, NOTHING, x -> x.value(0, 0, n, 0, -1));
        }
        refused("act that eats 7 and gives 6", -5, x -> x.act(0, 0, 7, 6, 1));
        refused("act that works, eats 10 and gives 6", -5, x -> x.act(0, 1, 10, 6, 1));
        refused("value of eating 7 and giving 6", NOTHING, x -> x.value(0, 0, 7, 6, 1));
        CHECK.due("act that eats all", rich().act(0, 0, 12, 0, -1), 0);
        CHECK.due("act that gives all", rich().act(0, 0, 0, 12, 1), 0);
        CHECK.due("act that eats and gives all", rich().act(0, 0, 7, 5, 1), 0);
        CHECK.due("act that works, eats and gives all", rich().act(0, 1, 10, 5, 2), 0);
        for (int to : new int[] {-1, 0, 3, -2, Integer.MIN_VALUE, Integer.MAX_VALUE}) {
            refused("act that gives to " + to, -2, x -> x.act(0, 0, 0, 1, to));
            refused("act that gives too much to " + to, -2, x -> x.act(0, 0, 0, 99, to));
            refused("value of giving to " + to, NOTHING, x -> x.value(0, 0, 0, 1, to));
        }
        for (int to : new int[] {0, 1, 2, 3, -2, Integer.MAX_VALUE}) {
            refused("act that gives nothing to " + to, -2, x -> x.act(0, 0, 1, 0, to));
            refused("value of giving nothing to " + to, NOTHING, x -> x.value(0, 0, 1, 0, to));
        }
    }

    private static void loansAndImages() {
        refused("lend more than he HAS", -5, x -> x.lend(0, 1, 13));
        refused("lend to more than steps", -5, x -> {
            x.have(1, 15);
            int answer = x.lend(0, 1, 6);
            x.have(1, rich().person(1, 0));
            x.hide(1, 2);
            return answer;
        });
        SixStroke full = rich();
        for (int i = 2; i <= 6; i++) {
            CHECK.due("LOAN " + i, full.lend(0, 1, 1), i);
        }
        int had = full.person(0, 0);
        CHECK.due("6 are there", full.lend(0, 1, 1), -3);
        CHECK.due("nothing goes over", full.person(0, 0), had);
        CHECK.due("LOANS", full.count(5), 6);
        bounds("keep", 0, 2, -2, (x, k) -> x.keep(k));
        bounds("back", 0, 2, -2, (x, k) -> x.back(k));
        refused("back to nothing", -6, x -> x.back(1));
        refused("back to nothing", -6, x -> x.back(2));
        SixStroke taped = rich();
        taped.end(0);
        for (int i = 0; i < 80; i++) {
            taped.feed(1, 2, 3, 4, 5);
        }
        CHECK.due("feed beyond 1,600", taped.feed(1, 2, 3, 4, 5), -1);
        CHECK.due("none come", taped.count(3), 1600);
        for (String text : new String[] {"", " x", "person", "law", "found 101;", "town steps 9;"}) {
            SixStroke faulty = rich();
            Check.feed(faulty, text);
            boolean isTown = text.isEmpty();
            CHECK.due("town behind which comes " + text, faulty.town(), isTown ? 2 : -4);
            CHECK.due("the TOWN", faulty.count(1), isTown ? 0 : 3);
            CHECK.due("the TAPE", faulty.count(3), isTown ? 0 : 21 + text.length());
            faulty.end(isTown ? 0 : 21);
            CHECK.due("the rest of it", faulty.town(), isTown ? 0 : 2);
        }
    }

    /** All that wants somebody, on a new object, in a TOWN of nobody and in one of no LINES. */
    private static void nobody() {
        SixStroke[] all = {new SixStroke(), Check.town("town steps 9;law over 1 ties 2 goes well;found 5;"), Check.town(" \n")};
        for (SixStroke x : all) {
            int[] refused = {x.person(0, 0), x.have(0, 0), x.hide(0, 0), x.seen(0, 1), x.sight(0, 1, 1), x.tops(), x.next(), x.loses(0),
                x.stroke(), x.act(0, 0, 0, 0, -1), x.run(1), x.best(0, 1), x.gift(0, 1), x.gifts(0), x.restless(), x.rests(1),
                x.way(0, 1), x.turnsTo(0, 0), x.idle(1), x.laws(1), x.leaves(0, 1), x.breaks(0, 1), x.third(0), x.lend(0, 1, 1),
                x.round(0, 1), x.edge(0, 0), x.pays(0, 1), x.quiet(1, 0), x.again(1), x.alike(1), x.open(), x.duel(0, 1),
                x.mixed(0, 1)};
            for (int i = 0; i < refused.length; i++) {
                CHECK.due("call " + i + " of nobody", refused[i], -2);
            }
            int[] nothing = {x.value(0, 0, 0, 0, -1), x.best(0, 0), x.total(0, 0, 1), x.beside(1, 0), x.know(0), x.knows(0, 1),
                x.hides(0, 0), x.follows(0, 0), x.plan(0, 1, 0)};
            for (int i = 0; i < nothing.length; i++) {
                CHECK.due("call " + i + " of NOTHING", nothing[i], NOTHING);
            }
            CHECK.due("SPREAD of nobody", x.spread(), 0);
            CHECK.due("DAYS gone", x.count(6), 0);
            CHECK.due("a seed", x.seed(3), 0);
            CHECK.due("an IMAGE", x.keep(0), 0);
            CHECK.due("and back", x.back(0), 0);
            x.row(0, 0, 5);
            x.write(0, 4, -1);
            CHECK.due("no ACT of nobody", x.judge(0), 0);
        }
        CHECK.due("no TOWN, no law", all[0].law(0, 2, 0, false), -2);
        CHECK.due("a TOWN of nobody has a law", all[1].law(0, 2, 0, false), 0);
        CHECK.due("a TOWN of no LINES", all[2].law(0, 2, 0, false), -2);
    }
}
