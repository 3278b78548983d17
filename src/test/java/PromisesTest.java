/**
 * Each promise by answers that were worked out by hand. "410" is the swell most used here: it
 * stands 0 4 8 12 16 20 16 12 8 4, tops in 5, 15 .. 395, and is level in 0 and 399.
 */
public final class PromisesTest {
    private static final int[] FAR = {Integer.MIN_VALUE, Integer.MAX_VALUE};

    private PromisesTest() {
    }

    private static void due(String call, long got, long want) {
        Due.due(call, got, want);
    }

    private static void all(RopeLadder x, int what, int from, int to, int v) {
        for (int w = from; w <= to; w++) {
            due("set " + w, x.set(w, v), what);
        }
    }

    private static RopeLadder with(String swells) {
        return Due.withSwells(swells);
    }

    private static RopeLadder with(String swells, String roll) {
        return Due.withSwellsAndRoll(swells, roll);
    }

    public static void main(String[] args) {
        newObject();
        typeWipeUndo();
        fault();
        swellAndRoll();
        beginsAndLee();
        set();
        high();
        does();
        leans();
        crest();
        seventh();
        lull();
        stepAndFall();
        climbAndBangs();
        safe();
        bestAndCall();
        down();
        saves();
        ladder();
        seenAndForget();
        read();
        learn();
        night();
        nightFrom();
        nightBangs();
        nightToTheEnd();
        sheetAndLose();
        putAndGet();
        copy();
        copyRefused();
        write();
        count();
        digest();
        Due.end("PromisesTest");
    }

    /** Promise 1. */
    private static void newObject() {
        RopeLadder x = new RopeLadder();
        int[] counts = {0, 0, 0, 0, 0, 0, 20, 0, 0};
        for (int what = 0; what <= 8; what++) {
            due("new: count(" + what + ")", x.count(what), counts[what]);
        }
        due("new: swell(0, 0)", x.swell(0, 0), -2);
        due("new: roll(0)", x.roll(0), -1);
        for (int s = 0; s <= 3; s++) {
            due("new: lose(" + s + ")", x.lose(s), -11);
        }
        int[] settings = {20, 9, 3, 5, 0, 2, 3, 1, 1, 1, 2, 1};
        for (int what = 0; what <= 11; what++) {
            due("new: set(" + what + ", 1)", x.set(what, 1), settings[what]);
        }
        for (int swell = 0; swell <= 5; swell++) {
            due("new: begins(" + swell + ", 1)", x.begins(swell, 1), 0);
        }
        due("new: lee(0, 1)", x.lee(0, 1), 0);
        due("new: lee(1, 1)", x.lee(1, 1), 0);
        due("new: forget()", x.forget(), 0);
    }

    /** Promises 2, 3, 4. */
    private static void typeWipeUndo() {
        RopeLadder x = new RopeLadder();
        for (int text : new int[] {-1, 2, FAR[0], FAR[1]}) {
            due("type(" + text + ", 48)", x.type(text, 48), -2);
            due("wipe(" + text + ")", x.wipe(text), -2);
            due("undo(" + text + ")", x.undo(text), -2);
        }
        for (int b : new int[] {-1, 256, FAR[0], FAR[1]}) {
            due("type(0, " + b + ")", x.type(0, b), -2);
        }
        due("undo of an empty text", x.undo(0), -3);
        due("undo of an empty text", x.undo(1), -3);
        due("wipe of an empty text", x.wipe(0), 0);
        due("type(0, 0)", x.type(0, 0), 1);
        due("type(0, 255)", x.type(0, 255), 2);
        for (int many = 3; many <= 23; many++) {
            due("type(0, 48), the " + many + "th", x.type(0, 48), many);
        }
        due("type, full", x.type(0, 48), -4);
        due("type, full, no byte", x.type(0, 256), -2);
        due("bytes", x.count(1), 23);
        due("undo, full", x.undo(0), 22);
        due("wipe(0)", x.wipe(0), 22);
        for (int many = 1; many <= 3; many++) {
            due("type(1, 52)", x.type(1, 52), many);
        }
        due("type(1, 52), full", x.type(1, 52), -4);
        due("undo(1)", x.undo(1), 2);
        due("roll of a text not ended", x.roll(0), -1);
        due("wipe(1)", x.wipe(1), 2);
        due("wipe(1) again", x.wipe(1), 0);
        Due.type(x, 0, "410;3");
        due("high, text not ended", x.high(5), 0);
        due("undo(0)", x.undo(0), 4);
        due("undo(0)", x.undo(0), 3);
        due("high, text well again", x.high(5), 20);
        due("wipe(0)", x.wipe(0), 3);
        due("high, no text", x.high(5), 0);
    }

    /** Promise 5. */
    private static void fault() {
        String[] texts = {"", "0", "00", "000", "001", "002", "099", "999", "a", ";", "1a", "10:", "10/", "1;",
            "123;", "123 ", "1234", "123;;", "123;4", "123;45", "123;400", "123;402", "123;402;", "/23", ":23",
            "110;110;110;110;110;110", "110;110;110;110;110;101", "110;110;110;110;110;1", "1100110;110"};
        int[] faults = {-1, 1, 2, 2, 2, -1, -1, -1, 0, 0, 1, 2, 2, 1,
            4, 3, 3, 4, 5, 6, 6, -1, 8, 0, 0,
            -1, 22, 21, 3};
        for (int i = 0; i < texts.length; i++) {
            due("fault of " + texts[i], with(texts[i]).fault(0), faults[i]);
            if (texts[i].length() <= 3) {
                due("fault of roll " + texts[i], with("", texts[i]).fault(1), faults[i]);
            }
        }
        RopeLadder x = with("1", "12");
        due("fault(0)", x.fault(0), 1);
        due("fault(1)", x.fault(1), 2);
        for (int text : new int[] {-1, 2, FAR[0], FAR[1]}) {
            due("fault(" + text + ")", x.fault(text), -2);
        }
        due("no FINDING", x.count(8), 0);
    }

    /** Promises 6, 7. */
    private static void swellAndRoll() {
        RopeLadder x = with("410;002;999", "307");
        int[][] told = {{4, 10}, {0, 2}, {9, 99}};
        for (int swell = 0; swell < 3; swell++) {
            due("swell(" + swell + ", 0)", x.swell(swell, 0), told[swell][0]);
            due("swell(" + swell + ", 1)", x.swell(swell, 1), told[swell][1]);
        }
        for (int swell : new int[] {-1, 3, 6, FAR[0], FAR[1]}) {
            due("swell(" + swell + ", 0)", x.swell(swell, 0), -2);
        }
        due("roll(0)", x.roll(0), 3);
        due("roll(1)", x.roll(1), 7);
        for (int what : new int[] {-1, 2, FAR[0], FAR[1]}) {
            due("swell(0, " + what + ")", x.swell(0, what), -2);
            due("roll(" + what + ")", x.roll(what), -2);
            due("roll(" + what + "), no ROLL", with("410").roll(what), -2);
        }
        due("swell by a FAULT", with("410;").swell(0, 0), -2);
        due("roll by a FAULT", with("410", "30").roll(1), -1);
        due("roll, none", with("410").roll(1), -1);
        due("roll of HEIGHT 0", with("410", "050").roll(0), 0);
    }

    /** Promises 8, 9. */
    private static void beginsAndLee() {
        RopeLadder x = with("410;310");
        due("begins(0, 98)", x.begins(0, 98), 0);
        due("begins(0, 3)", x.begins(0, 3), 98);
        due("begins(0, 3) again", x.begins(0, 3), 3);
        due("begins(5, 7), no such SWELL yet", x.begins(5, 7), 0);
        due("high by BEGINS", x.high(0), 12);
        due("high by BEGINS", x.high(2), 20 + 6);
        due("begins(1, 5)", x.begins(1, 5), 0);
        due("high by two BEGINS", x.high(0), 12 + 15);
        for (int no : new int[] {-1, FAR[0], FAR[1]}) {
            due("begins(" + no + ", 0)", x.begins(no, 0), -2);
            due("begins(0, " + no + ")", x.begins(0, no), -2);
            due("lee(" + no + ", 0)", x.lee(no, 0), -2);
            due("lee(0, " + no + ")", x.lee(0, no), -2);
            due("lee(1, " + no + ")", x.lee(1, no), -2);
        }
        due("begins(6, 0)", x.begins(6, 0), -2);
        due("begins(0, 99)", x.begins(0, 99), -2);
        due("begins, unchanged", x.begins(0, 0), 3);
        due("begins(5, 0)", x.begins(5, 0), 7);
        due("lee(0, 399)", x.lee(0, 399), 0);
        due("lee(1, 399)", x.lee(1, 399), 0);
        due("lee(2, 0)", x.lee(2, 0), -2);
        due("lee(0, 400)", x.lee(0, 400), -2);
        due("lee(1, 400)", x.lee(1, 400), -2);
        due("lee(0, 12)", x.lee(0, 12), 399);
        due("lee(1, 34)", x.lee(1, 34), 399);
        due("lee(0, 0)", x.lee(0, 0), 12);
        due("lee(1, 0)", x.lee(1, 0), 34);
        x.begins(0, 4);
        x.wipe(0);
        due("begins stay without the text", x.begins(0, 0), 4);
    }

    /** Promise 10. */
    private static void set() {
        int[] first = {20, 9, 3, 5, 0, 2, 3, 1, 1, 1, 2, 1};
        int[] least = {0, 1, 1, 0, 0, 0, 0, 0, 0, 0, 1, 0};
        int[] most = {999, 12, 30, 99, 16, 16, 16, 16, 16, 16, 9, 9};
        RopeLadder x = new RopeLadder();
        for (int what = 0; what <= 11; what++) {
            String of = "set(" + what + ", ";
            due(of + "least less 1)", x.set(what, least[what] - 1), -2);
            due(of + "most and 1)", x.set(what, most[what] + 1), -2);
            due(of + "far)", x.set(what, FAR[0]), -2);
            due(of + "far)", x.set(what, FAR[1]), -2);
            due(of + "least)", x.set(what, least[what]), first[what]);
            due(of + "most)", x.set(what, most[what]), least[what]);
        }
        for (int what = 0; what <= 11; what++) {
            due("set(" + what + ", 1)", x.set(what, 1), most[what]);
        }
        for (int what : new int[] {-1, 12, FAR[0], FAR[1]}) {
            due("set(" + what + ", 1)", x.set(what, 1), -2);
        }
    }

    private static void badTenths(RopeLadder x) {
        for (int t : new int[] {-1, 400, FAR[0], FAR[1]}) {
            String of = "(" + t + ", ..)";
            due("high" + of, x.high(t), -2);
            due("does" + of, x.does(t), -2);
            due("leans" + of, x.leans(t), -2);
            due("crest" + of, x.crest(t, 1), -2);
            due("seventh" + of, x.seventh(t), -2);
            due("lull" + of, x.lull(t, 1, 0), -2);
            due("step" + of, x.step(t), -2);
            due("fall" + of, x.fall(t), -2);
            due("climb" + of, x.climb(t), -2);
            due("bangs" + of, x.bangs(t), -2);
            due("safe" + of, x.safe(t, 0), Long.MIN_VALUE + 2);
            due("best" + of, x.best(t, 1), -2);
            due("call" + of, x.call(t, 1), -2);
            due("down" + of, x.down(t, 1, 0), -2);
            due("ladder" + of, x.ladder(t, 1), -2);
            due("seen" + of, x.seen(t, 1), -2);
            due("write" + of, x.write(t, 0), -2);
        }
    }

    /** Promise 11. */
    private static void high() {
        RopeLadder x = with("410");
        int[] heights = {0, 4, 8, 12, 16, 20, 16, 12, 8, 4};
        for (int t = 0; t <= 399; t++) {
            due("high(" + t + ")", x.high(t), heights[t % 10]);
        }
        badTenths(x);
        RopeLadder two = with("305;907");
        due("high(2), two", two.high(2), 3 * 2 + 9 * 2);
        due("high(3), two", two.high(3), 3 * 2 + 9 * 3);
        two.lee(0, 3);
        two.lee(1, 2);
        due("high(2), ahead of LEE", two.high(2), 24);
        due("high(3), in LEE, cut", two.high(3), 16);
        due("high(4), in LEE", two.high(4), (3 + 27) / 2);
        due("high(5), behind LEE", two.high(5), 0 + 18);
        RopeLadder odd = with("105;105");
        odd.lee(1, 399);
        due("all SWELLS together are cut, not each", odd.high(1), 1);
        due("high(399), behind 399 TENTHS of LEE", odd.high(399), 2);
        RopeLadder most = with("999;999;999;999;999;999");
        due("the greatest there is", most.high(49), 2646);
    }

    /** Promise 12. */
    private static void does() {
        RopeLadder x = with("105");
        int[] does = {0, 2, 0, 1, 3, 2, 2, 0, 1, 3, 2};
        for (int t = 0; t < does.length; t++) {
            due("does(" + t + ")", x.does(t), does[t]);
        }
        due("does(399)", x.does(399), 0);
        due("does(398)", x.does(398), 1);
        RopeLadder peaks = with("410");
        due("does(5)", peaks.does(5), 1);
        due("does(6)", peaks.does(6), 3);
        due("does(10)", peaks.does(10), 2);
        peaks.begins(0, 5);
        due("does(0), high as it is", peaks.does(0), 0);
        due("does, nothing there", new RopeLadder().does(7), 0);
        RopeLadder last = with("310");
        last.begins(0, 6);
        due("does(399), high as it is", last.does(399), 0);
        due("does(398)", last.does(398), 2);
    }

    /** Promise 13. */
    private static void leans() {
        RopeLadder x = with("", "108");
        int[] leans = {1, 1, 2, 2, 2, 2, 1, 1};
        for (int t = 0; t <= 399; t++) {
            due("leans(" + t + ")", x.leans(t), leans[t % 8]);
        }
        RopeLadder nine = with("", "909");
        int[] byNine = {1, 1, 1, 2, 2, 2, 2, 1, 1, 1};
        for (int t = 0; t < byNine.length; t++) {
            due("leans(" + t + "), 909", nine.leans(t), byNine[t]);
        }
        due("leans(0), 102", with("", "102").leans(0), 1);
        due("leans(1), 102", with("", "102").leans(1), 2);
        due("leans, HEIGHT 0", with("", "008").leans(0), 0);
        due("leans, no ROLL", with("410").leans(0), 0);
        due("leans, FAULT", with("", "10").leans(0), 0);
        x.undo(1);
        due("leans, undone", x.leans(0), 0);
        x.type(1, '6');
        due("leans, another ROLL", x.leans(2), 2);
        x.wipe(1);
        due("leans, wiped", x.leans(2), 0);
    }

    /** Promise 14. */
    private static void crest() {
        RopeLadder x = with("410");
        due("crest(0, 1)", x.crest(0, 1), 5);
        due("crest(5, 1)", x.crest(5, 1), 5);
        due("crest(6, 1)", x.crest(6, 1), 15);
        due("crest(0, 40)", x.crest(0, 40), 395);
        due("crest(0, 41)", x.crest(0, 41), -1);
        due("crest(0, 99)", x.crest(0, 99), -1);
        due("crest(396, 1)", x.crest(396, 1), -1);
        due("crest(399, 1)", x.crest(399, 1), -1);
        for (int k : new int[] {0, -1, 100, FAR[0], FAR[1]}) {
            due("crest(0, " + k + ")", x.crest(0, k), -2);
        }
        due("crest(0, 99), short", with("102").crest(0, 99), 197);
        due("crest of a plateau", with("105").crest(0, 1), 3);
        due("crest, none", new RopeLadder().crest(0, 1), -1);
    }

    /** Promise 15. */
    private static void seventh() {
        RopeLadder x = with("410");
        due("seventh(0), all alike", x.seventh(0), 1);
        due("seventh(395)", x.seventh(395), 1);
        due("seventh(396)", x.seventh(396), -1);
        x.lee(1, 20);
        due("seventh(0), the third", x.seventh(0), 3);
        due("seventh(15), the second", x.seventh(15), 2);
        x.lee(1, 60);
        due("seventh(0), the seventh", x.seventh(0), 7);
        x.lee(1, 70);
        due("seventh(0), the eighth is not asked", x.seventh(0), 1);
        due("seventh(6), the seventh", x.seventh(6), 7);
        x.lee(0, 330);
        due("seventh(330), fewer than seven", x.seventh(330), 1);
        x.lee(0, 300);
        due("seventh(346)", x.seventh(346), 3);
    }

    /** Promise 16. */
    private static void lull() {
        RopeLadder x = with("410");
        due("lull(0, 1, 0)", x.lull(0, 1, 0), 0);
        due("lull(0, 1, 1)", x.lull(0, 1, 1), 0);
        due("lull(0, 5, 0)", x.lull(0, 5, 0), 3);
        due("lull(0, 5, 1)", x.lull(0, 5, 1), 8);
        due("lull(4, 5, 0)", x.lull(4, 5, 0), 8);
        due("lull(0, 100, 1)", x.lull(0, 100, 1), 20);
        due("lull(300, 100, 0)", x.lull(300, 100, 0), 300);
        due("lull(301, 100, 0)", x.lull(301, 100, 0), -1);
        due("lull(301, 100, 1)", x.lull(301, 100, 1), -1);
        due("lull(399, 1, 0)", x.lull(399, 1, 0), 399);
        due("lull(399, 2, 0)", x.lull(399, 2, 0), -1);
        x.lee(0, 200);
        x.lee(1, 50);
        due("lull(0, 30, 0), 8 4 and then in LEE", x.lull(0, 30, 0), 198);
        due("lull(0, 30, 1), in LEE", x.lull(0, 30, 1), 10);
        due("lull(221, 30, 0), behind it", x.lull(221, 30, 0), 221);
        for (int no : new int[] {0, -1, 101, FAR[0], FAR[1]}) {
            due("lull(0, " + no + ", 0)", x.lull(0, no, 0), -2);
        }
        for (int no : new int[] {2, -1, FAR[0], FAR[1]}) {
            due("lull(0, 1, " + no + ")", x.lull(0, 1, no), -2);
            due("lull(399, 2, " + no + ")", x.lull(399, 2, no), -2);
        }
    }

    /** Promises 17, 18. */
    private static void stepAndFall() {
        RopeLadder x = with("410");
        due("step(3), AIR", x.step(3), 4);
        due("step(4), EARLY", x.step(4), 2);
        due("step(5), TOPPED", x.step(5), 1);
        due("step(6), LATE", x.step(6), 3);
        due("fall(3)", x.fall(3), 16);
        due("fall(4)", x.fall(4), 2 + 1);
        due("fall(5)", x.fall(5), 0 + 1);
        due("fall(6)", x.fall(6), 3 + 1);
        x.set(0, 21);
        due("step(4), by just ARM", x.step(4), 2);
        x.set(0, 22);
        due("step(4), by more than ARM", x.step(4), 4);
        x.set(3, 6);
        due("step(4), by a longer ARM", x.step(4), 2);
        x.set(0, 0);
        due("step(0), STILL", x.step(0), 0);
        due("step(399), STILL", x.step(399), 0);
        due("fall(0)", x.fall(0), 1 + 1);
        x.set(4, 5);
        x.set(5, 6);
        x.set(6, 7);
        x.set(7, 8);
        x.set(9, 2);
        due("fall(0)", x.fall(0), 10);
        due("fall(4)", x.fall(4), 8);
        due("fall(5)", x.fall(5), 7);
        due("fall(6)", x.fall(6), 9);
        x.set(9, 16);
        due("fall(4), 16 at most", x.fall(4), 16);
        x.set(9, 9);
        due("fall(6), 16 together", x.fall(6), 16);
        due("fall(5), 14 together", x.fall(5), 14);
        x.set(9, 0);
        x.set(0, 999);
        due("fall(5), AIR without WET", x.fall(5), 16);
    }

    /** Promises 19, 20. */
    private static void climbAndBangs() {
        RopeLadder x = new RopeLadder();
        due("climb(0)", x.climb(0), 18);
        due("climb(381)", x.climb(381), 399);
        due("climb(382)", x.climb(382), -1);
        due("bangs, UPRIGHT", x.bangs(0), 0);
        RopeLadder rolls = with("", "108");
        rolls.set(1, 1);
        rolls.set(10, 1);
        due("climb(0), hung out", rolls.climb(0), 2);
        due("climb(4)", rolls.climb(4), 5);
        due("climb(5), hung out", rolls.climb(5), 10);
        due("bangs(5)", rolls.bangs(5), 1);
        due("climb(396)", rolls.climb(396), 397);
        due("climb(397), hung out to the end", rolls.climb(397), -1);
        due("bangs(397)", rolls.bangs(397), 0);
        rolls.set(1, 2);
        due("climb(396), two", rolls.climb(396), -1);
        due("bangs(396), ahead of the one", rolls.bangs(396), 1);
        rolls.set(1, 5);
        due("climb(1), five", rolls.climb(1), 10);
        due("bangs(1), five", rolls.bangs(1), 5);
        RopeLadder comes = with("410");
        comes.set(0, 0);
        comes.set(1, 1);
        comes.set(10, 1);
        due("climb(0), the CUTTER higher", comes.climb(0), -1);
        comes.set(2, 4);
        due("climb(0), the CUTTER as high", comes.climb(0), 1);
        comes.set(1, 5);
        due("climb(0), with the CUTTER", comes.climb(0), 5);
        due("climb(1), one TENTH behind", comes.climb(1), -1);
        comes.set(0, 4);
        due("climb(1), a FOOT higher", comes.climb(1), 6);
        Due.type(comes, 1, "199");
        comes.set(0, 0);
        due("climb(24), IN, CAUGHT at the first", comes.climb(24), -1);
        due("bangs(24)", comes.bangs(24), 0);
        due("climb(29)", comes.climb(29), 34);
        due("bangs(29)", comes.bangs(29), 5);
        comes.set(2, 3);
        due("climb(27)", comes.climb(27), -1);
        due("bangs(27), CAUGHT at the first", comes.bangs(27), 0);
        comes.set(0, 5);
        due("climb(30), as high at the fifth", comes.climb(30), 35);
        comes.set(0, 4);
        due("climb(30)", comes.climb(30), -1);
        due("bangs(30), CAUGHT at the fifth", comes.bangs(30), 4);
    }

    /** Promise 21. */
    private static void safe() {
        RopeLadder x = new RopeLadder();
        due("safe(0, 0), AIR", x.safe(0, 0), 0);
        due("safe(0, 1), AIR", x.safe(0, 1), 1);
        x.set(0, 5);
        due("safe(0, 0), STILL", x.safe(0, 0), 7);
        due("safe(0, 1), STILL", x.safe(0, 1), 8);
        due("safe(381, 0)", x.safe(381, 0), 7);
        due("safe(382, 0), CAUGHT", x.safe(382, 0), 0);
        due("safe(382, 1), CAUGHT", x.safe(382, 1), 1);
        Due.type(x, 1, "199");
        x.set(1, 1);
        due("safe(25, 0), one BANG", x.safe(25, 0), 105);
        due("safe(25, 1), one BANG", x.safe(25, 1), 128);
        x.set(8, 4);
        due("safe(25, 0), 7 by 8 and 3 by 4", x.safe(25, 0), 21);
        due("safe(25, 1)", x.safe(25, 1), 32);
        x.set(8, 16);
        due("safe(25, 0), a sure BANG", x.safe(25, 0), 0);
        due("safe(25, 1), a sure BANG", x.safe(25, 1), 1);
        x.set(8, 0);
        x.set(7, 0);
        x.set(9, 0);
        due("safe(25, 0), sure", x.safe(25, 0), 1);
        due("safe(25, 1), sure", x.safe(25, 1), 1);
        x.set(8, 1);
        x.set(9, 1);
        x.set(1, 12);
        due("safe(25, 0), 15 to the 13th", x.safe(25, 0), 1946195068359375L);
        due("safe(25, 1), 16 to the 13th", x.safe(25, 1), 4503599627370496L);
        for (int what : new int[] {-1, 2, FAR[0], FAR[1]}) {
            due("safe(0, " + what + ")", x.safe(0, what), Long.MIN_VALUE + 2);
        }
    }

    /** Promises 22, 23. */
    private static void bestAndCall() {
        RopeLadder x = with("410");
        due("best(0, 10)", x.best(0, 10), 5);
        due("best(0, 5)", x.best(0, 5), 4);
        due("best(0, 6)", x.best(0, 6), 5);
        due("best(0, 100), the first", x.best(0, 100), 5);
        due("best(6, 5)", x.best(6, 5), 6);
        due("best(10, 2), all AIR", x.best(10, 2), 10);
        due("best(391, 100), all CAUGHT", x.best(391, 100), 391);
        due("best(399, 1)", x.best(399, 1), 399);
        due("call(0, 10)", x.call(0, 10), 4);
        x.set(11, 5);
        due("call, LAG 5", x.call(0, 10), 0);
        x.set(11, 6);
        due("call, ahead of TENTH 0", x.call(0, 10), -1);
        x.set(11, 9);
        due("call, far ahead of TENTH 0", x.call(0, 10), -1);
        due("call(6, 10), ahead of the one", x.call(6, 10), 6);
        x.set(11, 0);
        due("call, no LAG", x.call(0, 10), 5);
        Due.type(x, 1, "113");
        x.set(1, 1);
        x.set(0, 10);
        due("bangs(5), with ROLL", x.bangs(5), 1);
        x.set(8, 16);
        due("best, by BANGS that are sure: none", x.best(0, 10), 0);
        for (int within : new int[] {0, -1, 101, FAR[0], FAR[1]}) {
            due("best(0, " + within + ")", x.best(0, within), -2);
            due("call(0, " + within + ")", x.call(0, within), -2);
        }
    }

    /** Promise 24. */
    private static void down() {
        RopeLadder x = with("410");
        due("down(0, 100, 0)", x.down(0, 100, 0), 5);
        due("down(0, 100, 1)", x.down(0, 100, 1), 0);
        due("down(0, 4, 0)", x.down(0, 4, 0), 3);
        due("down(0, 4, 1)", x.down(0, 4, 1), 8);
        x.set(0, 18);
        due("down, below as near as above", x.down(0, 100, 0), 4);
        due("down, below as near as above", x.down(0, 100, 1), 2);
        due("down, above first", x.down(5, 100, 0), 5);
        x.set(0, 5);
        due("down(3, 2, 0), above", x.down(3, 2, 0), 3);
        due("down(3, 2, 1), above", x.down(3, 2, 1), 7);
        due("down(399, 100, 0)", x.down(399, 100, 0), 399);
        due("down(399, 100, 1)", x.down(399, 100, 1), 1);
        for (int no : new int[] {-1, FAR[0], FAR[1]}) {
            due("down(0, " + no + ", 0)", x.down(0, no, 0), -2);
            due("down(0, 1, " + no + ")", x.down(0, 1, no), -2);
        }
        due("down(0, 0, 0)", x.down(0, 0, 0), -2);
        due("down(0, 101, 0)", x.down(0, 101, 0), -2);
        due("down(0, 1, 2)", x.down(0, 1, 2), -2);
    }

    /** Promise 25. */
    private static void saves() {
        RopeLadder x = with("307");
        due("saves, no LEE", x.saves(), -1);
        x.lee(0, 3);
        due("saves, no TENTHS", x.saves(), -1);
        x.lee(1, 1);
        due("saves, 9 and 4", x.saves(), 5);
        x.lee(0, 0);
        due("saves, of 0", x.saves(), 0);
        x.lee(1, 3);
        due("saves, up to TENTH 2", x.saves(), 3);
        x.lee(1, 4);
        due("saves, up to TENTH 3", x.saves(), 5);
        RopeLadder last = with("410");
        last.lee(0, 399);
        last.lee(1, 399);
        due("saves, to 399", last.saves(), 2);
        RopeLadder none = new RopeLadder();
        none.lee(1, 1);
        due("saves, no SWELLS", none.saves(), 0);
    }

    /** Promise 26. */
    private static void ladder() {
        RopeLadder x = with("410");
        due("ladder(0, 10)", x.ladder(0, 10), 4);
        due("ladder(4, 3)", x.ladder(4, 3), 20);
        due("ladder(4, 1)", x.ladder(4, 1), 16);
        due("ladder(1, 2)", x.ladder(1, 2), 8);
        due("ladder(1, 3), by just ARM", x.ladder(1, 3), 8);
        due("ladder(399, 100)", x.ladder(399, 100), 4);
        x.set(3, 0);
        due("ladder(1, 3), no ARM", x.ladder(1, 3), 4);
        x.set(3, 99);
        due("ladder(0, 10), a long ARM", x.ladder(0, 10), 20);
        RopeLadder high = with("999;999;999;999;999;999");
        due("ladder(40, 5), above all FEET", high.ladder(40, 5), 0);
        due("ladder(18, 2)", high.ladder(18, 2), 972);
        high.set(3, 99);
        due("ladder(18, 2), to 999", high.ladder(18, 2), 972);
        RopeLadder thousand = with("999;999;999;999;499");
        due("high(25)", thousand.high(25), 1000);
        due("ladder(25, 1), no FOOT of 1000", thousand.ladder(25, 1), 0);
        due("ladder(24, 2)", thousand.ladder(24, 2), 960);
        thousand.set(3, 99);
        due("ladder(24, 2), no FOOT of 1000", thousand.ladder(24, 2), 960);
        due("ladder, no SWELLS", new RopeLadder().ladder(0, 10), 0);
        for (int many : new int[] {0, -1, 101, FAR[0], FAR[1]}) {
            due("ladder(0, " + many + ")", x.ladder(0, many), -2);
        }
    }

    /** Promises 27, 28. */
    private static void seenAndForget() {
        RopeLadder x = new RopeLadder();
        for (int high : new int[] {-1, 3001, FAR[0], FAR[1]}) {
            due("seen(0, " + high + ")", x.seen(0, high), -2);
        }
        due("seen(0, 0)", x.seen(0, 0), 1);
        due("seen(399, 3000)", x.seen(399, 3000), 2);
        for (int many = 3; many <= 8; many++) {
            due("seen(7, 7)", x.seen(7, 7), many);
        }
        due("seen, full", x.seen(7, 7), -4);
        due("seen, full and no TENTH", x.seen(400, 7), -2);
        due("SEEN", x.count(5), 8);
        due("forget()", x.forget(), 8);
        due("SEEN", x.count(5), 0);
        due("forget() again", x.forget(), 0);
        due("seen again", x.seen(1, 1), 1);
    }

    private static void fill(RopeLadder x, int s, int form, int... items) {
        due("sheet", x.sheet(s, form, items.length), items.length);
        for (int i = 0; i < items.length; i++) {
            due("put", x.put(s, form, i, items[i]), 1);
        }
    }

    /** Promise 29. */
    private static void read() {
        RopeLadder x = with("410");
        for (int s : new int[] {-1, 4, FAR[0], FAR[1]}) {
            due("read(" + s + ")", x.read(s), -2);
        }
        due("no FINDING", x.count(8), 0);
        due("read of a LOST one", x.read(3), -11);
        due("NULL", x.count(8), 1);
        fill(x, 0, 2);
        due("read of no items", x.read(0), 0);
        fill(x, 0, 0, 9);
        due("read of one item", x.read(0), 0);
        fill(x, 0, 1, 5, 20, 6, 16, 7);
        due("read of two pairs and a half", x.read(0), 2);
        due("learn by what was read", x.learn(0, -1), 1);
        due("learn by what was read", x.learn(0, 0), 10);
        fill(x, 1, 2, 1, 1, 400, 1, 2, 2);
        due("read up to a TENTH that is none", x.read(1), 1);
        fill(x, 1, 2, 1, 1, 2, 3001, 2, 2);
        due("read up to a height that is none", x.read(1), 1);
        fill(x, 1, 0, -1, 1);
        due("read of a TENTH below 0", x.read(1), 0);
        due("SEEN", x.count(5), 4);
        x.sheet(2, 1, 48);
        due("read up to FULL", x.read(2), 4);
        due("read, full", x.read(2), 0);
        due("SEEN", x.count(5), 8);
    }

    /** Promise 30. */
    private static void learn() {
        RopeLadder none = new RopeLadder();
        due("learn, no SWELL", none.learn(0, -1), -2);
        RopeLadder x = with("105");
        due("learn, nothing SEEN", x.learn(0, -1), 98);
        due("learn, the first", x.learn(0, 0), 2);
        due("learn, the last", x.learn(0, 97), 99);
        x.seen(2, 2);
        due("learn, by 2 in 2", x.learn(0, -1), 96);
        due("learn, by 2 in 2", x.learn(0, 0), 4);
        due("learn, by 2 in 2", x.learn(0, 95), 99);
        due("learn, not so many", x.learn(0, 96), -1);
        due("learn, not so many", x.learn(0, 97), -1);
        x.seen(5, 0);
        due("learn, by 0 in 5", x.learn(0, -1), 1);
        due("learn, by 0 in 5", x.learn(0, 0), 5);
        for (int no : new int[] {-2, 98, FAR[0], FAR[1]}) {
            due("learn(0, " + no + ")", x.learn(0, no), -2);
        }
        for (int no : new int[] {-1, 1, FAR[0], FAR[1]}) {
            due("learn(" + no + ", 0)", x.learn(no, 0), -2);
        }
        x.begins(0, 1);
        due("learn, BEGINS changed", x.learn(0, -1), 0);
        due("learn, none", x.learn(0, 0), -1);
        RopeLadder two = with("310;205");
        two.seen(7, 13);
        two.seen(23, 13);
        due("learn(0, -1), two SWELLS", two.learn(0, -1), 1);
        due("learn(0, 0), two SWELLS", two.learn(0, 0), 10);
        due("learn(1, 0), two SWELLS", two.learn(1, 0), 5);
        two.lee(1, 50);
        due("learn in LEE", two.learn(0, -1), 0);
        two.forget();
        two.seen(7, 6);
        two.seen(23, 6);
        due("learn in LEE, cut", two.learn(0, 0), 10);
    }

    /** A swell whose every STEP by a CREST is without odds, where only lots tell who falls. */
    private static RopeLadder withoutOdds(String swells) {
        RopeLadder x = with(swells);
        x.set(3, 99);
        for (int what = 4; what <= 9; what++) {
            x.set(what, 0);
        }
        return x;
    }

    /** Promise 31: by SEED 1 the lots are, as upper 16 bits, 16838 38526 10113 50283 63819 38395 55778 40187 .. */
    private static void night() {
        RopeLadder x = withoutOdds("410");
        x.set(1, 12);
        x.set(10, 9);
        for (int seed : new int[] {0, 1, 2, -1, FAR[0], FAR[1]}) {
            due("night, one", x.night(seed, 1), 1);
            due("night, two", x.night(seed, 2), 2);
            due("night, three", x.night(seed, 3), 3);
            due("night, the rest CAUGHT", x.night(seed, 20), 3);
        }
        x.set(1, 1);
        x.set(10, 1);
        due("night, all", x.night(5, 20), 20);
        x.set(6, 12);
        int[] up = {1, 2, 3, 3, 3};
        for (int n = 1; n <= 5; n++) {
            due("night(1, " + n + "), LATE 12", x.night(1, n), up[n - 1]);
        }
        x.set(6, 14);
        due("night(1, 1), a lot of 14, LATE 14", x.night(1, 1), 1);
        x.set(6, 15);
        due("night(1, 1), a lot of 14, LATE 15", x.night(1, 1), 0);
        due("night(1, 3), LATE 15", x.night(1, 3), 2);
        for (int n : new int[] {0, -1, 21, FAR[0], FAR[1]}) {
            due("night(1, " + n + ")", x.night(1, n), -2);
        }
        due("night, no CREST", new RopeLadder().night(1, 20), 0);
    }

    /** One goes by each of five CRESTS; by the last one, 398, only if a lot of 3 is 0. */
    private static void nightToTheEnd() {
        RopeLadder x = withoutOdds("199");
        x.begins(0, 48);
        x.set(0, 99);
        x.set(1, 1);
        x.set(10, 1);
        due("crest(300, 1)", x.crest(300, 1), 398);
        due("crests", x.count(4), 5);
        due("night(2, 20), a lot of 0", x.night(2, 20), 5);
        due("night(-1, 20), a lot of 0", x.night(-1, 20), 5);
        due("night(0, 20), a lot of 1: CAUGHT", x.night(0, 20), 4);
        due("night(1, 20), a lot of 2: TENTH 400", x.night(1, 20), 4);
    }

    /** By SEED 0: lots 0 (54236) 42756 54885 3498 49695 16045 52509 ..: two fall at CREST 50, a third gets up. */
    private static void nightFrom() {
        RopeLadder x = withoutOdds("499");
        x.set(0, 200);
        x.set(1, 12);
        x.set(10, 9);
        x.set(4, 13);
        due("night(0, 2)", x.night(0, 2), 0);
        due("night(0, 3)", x.night(0, 3), 1);
        due("night(0, 4)", x.night(0, 4), 2);
        due("night(0, 20), no CREST more", x.night(0, 20), 2);
    }

    /** By SEED 2: a lot of 3 is 1, then lots of 16 are 1, 15, 2: two BANGS. */
    private static void nightBangs() {
        RopeLadder x = withoutOdds("410");
        Due.type(x, 1, "110");
        x.set(1, 2);
        x.set(10, 1);
        due("bangs(6)", x.bangs(6), 2);
        x.set(8, 2);
        due("night(2, 1), BANGED 2", x.night(2, 1), 1);
        x.set(8, 3);
        due("night(2, 1), BANGED 3", x.night(2, 1), 0);
        x.set(8, 16);
        due("night(2, 20), BANGED 16", x.night(2, 20), 0);
        x.set(8, 0);
        x.set(6, 1);
        due("night(2, 1), LATE 1", x.night(2, 1), 1);
        x.set(6, 2);
        due("night(2, 1), LATE 2", x.night(2, 1), 0);
    }

    /** Promises 32, 33. */
    private static void sheetAndLose() {
        RopeLadder x = new RopeLadder();
        for (int s : new int[] {-1, 4, FAR[0], FAR[1]}) {
            due("sheet(" + s + ", 0, -1)", x.sheet(s, 0, -1), -2);
            due("lose(" + s + ")", x.lose(s), -2);
        }
        for (int form : new int[] {-1, 3, FAR[0], FAR[1]}) {
            due("sheet(0, " + form + ", -1)", x.sheet(0, form, -1), -2);
        }
        due("sheet(0, 0, 49)", x.sheet(0, 0, 49), -2);
        due("sheet(0, 0, most)", x.sheet(0, 0, FAR[1]), -2);
        due("no FINDING", x.count(8), 0);
        due("sheet(0, 0, -1)", x.sheet(0, 0, -1), -15);
        due("SIZE", x.count(8), 5);
        due("sheet(0, 0, least)", x.sheet(0, 0, FAR[0]), -15);
        due("lose, LOST", x.lose(0), -11);
        due("NULL", x.count(8), 1);
        due("sheet(3, 2, 48)", x.sheet(3, 2, 48), 48);
        due("put", x.put(3, 2, 47, 9), 1);
        due("sheet(3, 2, -1)", x.sheet(3, 2, -1), -15);
        due("get, the row unchanged", x.get(3, 2, 47), 9);
        due("sheet(3, 2, 48) anew", x.sheet(3, 2, 48), 48);
        due("get, a new row", x.get(3, 2, 47), 0);
        due("sheet(3, 1, 0)", x.sheet(3, 1, 0), 0);
        due("lose, no items", x.lose(3), 0);
        due("lose again", x.lose(3), -11);
        due("sheet(3, 1, 5)", x.sheet(3, 1, 5), 5);
        due("lose", x.lose(3), 5);
    }

    /** Promises 34, 35. */
    private static void putAndGet() {
        RopeLadder x = new RopeLadder();
        int least = Integer.MIN_VALUE;
        for (int no : new int[] {-1, 4, FAR[0], FAR[1]}) {
            due("put(" + no + ", 0, 0, 0)", x.put(no, 0, 0, 0), -2);
            due("get(" + no + ", 0, 0)", x.get(no, 0, 0), least);
        }
        for (int no : new int[] {-1, 3, FAR[0], FAR[1]}) {
            due("put(0, " + no + ", 0, 0)", x.put(0, no, 0, 0), -2);
            due("get(0, " + no + ", 0)", x.get(0, no, 0), least);
        }
        due("no FINDING", x.count(8), 0);
        due("put, LOST", x.put(0, 0, 9, 0), -11);
        due("NULL", x.count(8), 1);
        x.sheet(0, 0, 2);
        x.sheet(1, 1, 2);
        x.sheet(2, 2, 2);
        due("put, CAST ahead of INDEX", x.put(0, 1, 9, 0), -13);
        due("CAST", x.count(8), 3);
        for (int no : new int[] {-1, 2, 48, FAR[0], FAR[1]}) {
            due("put, INDEX", x.put(0, 0, no, 0), -12);
            due("INDEX", x.count(8), 2);
            due("get, CAST ahead of INDEX", x.get(0, 2, no), least);
            due("CAST", x.count(8), 3);
            due("get, INDEX", x.get(0, 0, no), least);
            due("INDEX", x.count(8), 2);
        }
        due("get, LOST", x.get(3, 0, 0), least);
        due("NULL", x.count(8), 1);
        int[] values = {0, 127, 128, -129, 255, 32767, 32768, 65535, -32769, FAR[0], FAR[1]};
        for (int v : values) {
            for (int form = 0; form <= 2; form++) {
                due("put", x.put(form, form, 1, v), 1);
            }
            due("get of bytes, " + v, x.get(0, 0, 1), (byte) v);
            due("get of shorts, " + v, x.get(1, 1, 1), (short) v);
            due("get of ints, " + v, x.get(2, 2, 1), v);
            due("get, the other item", x.get(2, 2, 0), 0);
        }
        due("the FINDING stays", x.count(8), 1);
    }

    private static void rowIs(String name, RopeLadder x, int s, int form, int... items) {
        for (int i = 0; i < items.length; i++) {
            due(name + ", item " + i, x.get(s, form, i), items[i]);
        }
    }

    /** Promise 36. */
    private static void copy() {
        RopeLadder x = new RopeLadder();
        fill(x, 0, 1, 1, 2, 3, 4, 5);
        fill(x, 1, 1, 9, 8, 7);
        due("copy(0, 1, 1, 0, 2)", x.copy(0, 1, 1, 0, 2), 1);
        rowIs("copy to another", x, 1, 1, 2, 3, 7);
        rowIs("copy from", x, 0, 1, 1, 2, 3, 4, 5);
        due("copy(0, 0, 0, 1, 4), up", x.copy(0, 0, 0, 1, 4), 1);
        rowIs("copy up", x, 0, 1, 1, 1, 2, 3, 4);
        fill(x, 0, 1, 1, 2, 3, 4, 5);
        due("copy(0, 2, 0, 0, 3), down", x.copy(0, 2, 0, 0, 3), 1);
        rowIs("copy down", x, 0, 1, 3, 4, 5, 4, 5);
        due("copy(0, 2, 0, 2, 3), in place", x.copy(0, 2, 0, 2, 3), 1);
        rowIs("copy in place", x, 0, 1, 3, 4, 5, 4, 5);
        due("copy(0, 5, 1, 3, 0), none", x.copy(0, 5, 1, 3, 0), 1);
        due("copy(0, 2, 1, 0, 3), up to the ends", x.copy(0, 2, 1, 0, 3), 1);
        rowIs("copy to the ends", x, 1, 1, 5, 4, 5);
        due("no FINDING", x.count(8), 0);
    }

    private static void copyRefused() {
        RopeLadder x = new RopeLadder();
        fill(x, 0, 1, 1, 2, 3, 4, 5);
        fill(x, 1, 1, 9, 8, 7);
        for (int no : new int[] {-1, 4, FAR[0], FAR[1]}) {
            due("copy(" + no + ", ..)", x.copy(no, 0, 3, 0, 1), -2);
            due("copy(.., " + no + ", ..)", x.copy(3, 0, no, 0, 1), -2);
        }
        due("no FINDING", x.count(8), 0);
        due("copy from a LOST one", x.copy(3, 0, 0, 9, 9), -11);
        due("copy to a LOST one", x.copy(0, 0, 3, 9, 9), -11);
        due("copy of LOST ones", x.copy(3, 0, 3, 0, 0), -11);
        fill(x, 2, 0, 6);
        due("copy, STORE ahead of INDEX", x.copy(0, 9, 2, 9, 9), -14);
        due("STORE", x.count(8), 4);
        int[][] wrong = {{-1, 0, 1}, {0, -1, 1}, {0, 0, -1}, {0, 0, 4}, {3, 0, 3}, {0, 1, 3}, {6, 0, 0}, {0, 4, 0},
            {1, 1, FAR[1]}, {FAR[1], 0, 1}, {0, FAR[1], 1}, {FAR[1], FAR[1], FAR[1]}, {0, 0, FAR[0]}, {FAR[0], 0, 1}};
        for (int[] one : wrong) {
            due("copy, INDEX", x.copy(0, one[0], 1, one[1], one[2]), -12);
        }
        due("INDEX", x.count(8), 2);
        rowIs("copy refused", x, 1, 1, 9, 8, 7);
    }

    /** Promise 37. */
    private static void write() {
        RopeLadder x = with("999");
        for (int s : new int[] {-1, 4, FAR[0], FAR[1]}) {
            due("write(0, " + s + ")", x.write(0, s), -2);
        }
        due("write, no TENTH ahead of LOST", x.write(400, 0), -2);
        due("no FINDING", x.count(8), 0);
        due("write, LOST", x.write(0, 0), -11);
        due("NULL", x.count(8), 1);
        x.sheet(0, 0, 3);
        due("write(48, 0)", x.write(48, 0), 3);
        rowIs("write of bytes", x, 0, 0, 432 - 512, 441 - 512, 441 - 512);
        x.sheet(1, 1, 3);
        due("write(48, 1)", x.write(48, 1), 3);
        rowIs("write of shorts", x, 1, 1, 432, 441, 441);
        fill(x, 2, 2, 7, 7, 7, 7);
        due("write(397, 2), to 399", x.write(397, 2), 3);
        rowIs("write to 399", x, 2, 2, 9, 18, 27, 7);
        x.sheet(2, 2, 0);
        due("write, no items", x.write(0, 2), 0);
        x.sheet(2, 2, 48);
        due("write(352, 2)", x.write(352, 2), 48);
        due("write(353, 2)", x.write(353, 2), 47);
        due("write(399, 2)", x.write(399, 2), 1);
    }

    /** Promise 38. */
    private static void count() {
        RopeLadder x = with("410;310", "3");
        x.seen(1, 1);
        x.set(0, 77);
        x.lose(0);
        int[] counts = {2, 7, 1, 7, 40, 1, 77, 35, 1};
        for (int what = 0; what <= 8; what++) {
            due("count(" + what + ")", x.count(what), counts[what]);
        }
        for (int what : new int[] {-1, 9, FAR[0], FAR[1]}) {
            due("count(" + what + ")", x.count(what), -2);
        }
        x.lee(1, 399);
        due("count(7), in LEE, but the last", x.count(7), 17);
        x.type(0, ';');
        int[] faulty = {0, 8, 1, 0, 0, 1, 77, 0, 1};
        for (int what = 0; what <= 8; what++) {
            due("count(" + what + "), FAULT", x.count(what), faulty[what]);
        }
        RopeLadder last = with("410");
        last.begins(0, 6);
        due("the last TENTH does not top", last.count(4), 39);
        due("but it is looked at", with("499").count(7), 196);
    }

    /** Promise 39. */
    private static void digest() {
        RopeLadder x = new RopeLadder();
        due("digest of a new one", x.digest(), byCalls(x));
        Due.type(x, 0, "410;323;999");
        due("digest with SWELLS", x.digest(), byCalls(x));
        Due.type(x, 1, "312");
        x.begins(1, 4);
        x.lee(0, 30);
        x.lee(1, 60);
        x.set(0, 120);
        x.seen(3, x.high(3));
        due("digest with all", x.digest(), byCalls(x));
        long was = x.digest();
        x.lose(0);
        due("digest, by no FINDING", x.digest(), was);
        x.set(11, 2);
        due("digest, by LAG", x.digest() == was ? 1 : 0, 0);
    }

    private static long byCalls(RopeLadder x) {
        long h = 17;
        for (int what = 0; what <= 7; what++) h = h * 31 + x.count(what);
        h = (h * 31 + x.fault(0)) * 31 + x.fault(1);
        for (int s = 0; s < x.count(0); s++) {
            h = ((h * 31 + x.swell(s, 0)) * 31 + x.swell(s, 1)) * 31 + x.learn(s, -1);
            h = h * 31 + x.learn(s, 0);
        }
        h = (h * 31 + x.roll(0)) * 31 + x.roll(1);
        for (int t : new int[] {0, 1, 37, 200, 399}) {
            long[] told = {x.high(t), x.does(t), x.leans(t), x.crest(t, 2), x.seventh(t), x.lull(t, 20, 0),
                x.lull(t, 20, 1), x.step(t), x.fall(t), x.climb(t), x.bangs(t), x.safe(t, 0), x.safe(t, 1),
                x.best(t, 30), x.call(t, 30), x.down(t, 30, 0), x.down(t, 30, 1), x.ladder(t, 30)};
            for (long one : told) h = h * 31 + one;
        }
        return (h * 31 + x.saves()) * 31 + x.night(7, 5);
    }
}
