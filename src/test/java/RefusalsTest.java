/**
 * The paragraph on refusals: "Refusals, the first that fits, in the order told at each act: BAD -2,
 * NULL, NOT -3, FULL -4, other FINDINGS. They change nothing (FINDINGS but count() 8)."
 */
public final class RefusalsTest {
    private static final String[] NUMBERS = {"MIN", "-1000", "-11", "-3", "-2", "-1", "0", "1", "2", "3", "4", "5", "6", "7",
        "8", "11", "12", "13", "22", "23", "24", "47", "48", "49", "97", "98", "99", "100", "101", "255", "256", "398",
        "399", "400", "401", "999", "1000", "3000", "3001", "65536", "MAX"};
    private static final String[] CALLS = {"type(#, 48)", "type(0, #)", "type(1, #)", "wipe(#)", "undo(#)", "fault(#)",
        "swell(#, 0)", "swell(0, #)", "roll(#)", "begins(#, 0)", "begins(0, #)", "lee(#, 5)", "lee(0, #)", "lee(1, #)",
        "set(#, 5)", "set(0, #)", "set(1, #)", "set(10, #)", "high(#)", "does(#)", "leans(#)", "crest(#, 1)", "crest(5, #)",
        "seventh(#)", "lull(#, 5, 1)", "lull(5, #, 1)", "lull(5, 5, #)", "step(#)", "fall(#)", "climb(#)", "bangs(#)",
        "safe(#, 0)", "safe(5, #)", "best(#, 100)", "best(5, #)", "call(#, 100)", "call(5, #)", "down(#, 100, 0)",
        "down(5, #, 1)", "down(5, 5, #)", "ladder(#, 100)", "ladder(5, #)", "seen(#, 5)", "seen(5, #)", "read(#)",
        "learn(#, 0)", "learn(0, #)", "night(#, 20)", "night(5, #)", "sheet(#, 2, 5)", "sheet(1, #, 5)", "sheet(1, 2, #)",
        "lose(#)", "put(#, 2, 1, 7)", "put(2, #, 1, 7)", "put(2, 2, #, 7)", "put(2, 2, 1, #)", "get(#, 2, 1)",
        "get(2, #, 1)", "get(2, 2, #)", "copy(#, 0, 2, 0, 1)", "copy(2, #, 2, 0, 1)", "copy(2, 0, #, 0, 1)",
        "copy(2, 0, 2, #, 1)", "copy(2, 0, 2, 0, #)", "copy(2, #, 2, #, #)", "write(#, 2)", "write(5, #)", "count(#)"};

    private RefusalsTest() {
    }

    public static void main(String[] args) {
        Tests.run(RefusalsTest.class);
    }

    /** All that can be full is full: texts, what was SEEN, SHEETS 0 (bytes) and 2 (ints); 1 has three shorts, 3 is LOST. */
    private static Asked full() {
        Asked x = Asked.with("410;310;205;999;002;120", "312").lee(30, 60);
        for (int swell = 0; swell <= 5; swell++) x.ask("begins(" + swell + ", " + (7 * swell + 3) + ")");
        x.having(0, 120, 1, 5, 2, 20, 3, 50, 4, 1, 5, 3, 6, 4, 7, 2, 8, 3, 9, 2, 10, 3, 11, 4);
        for (int many = 1; many <= 8; many++) x.ask("seen(" + many + ", " + x.ask("high(" + many + ")") + ")");
        x.ask("sheet(0, 0, 48)");
        x.ask("write(11, 0)");
        x.sheet(1, 1, 300, 301, 302);
        x.ask("sheet(2, 2, 48)");
        x.ask("write(200, 2)");
        return x.due("copy(0, 0, 1, 0, 0)", -14);
    }

    /** A new object but for a FINDING: SIZE. */
    private static Asked empty() {
        return Asked.fresh().due("sheet(0, 0, -1)", -15);
    }

    /** Texts with FAULTS, a SHEET of no items, some SEEN. */
    private static Asked faulty() {
        Asked x = Asked.with("410;3", "401").sheet(1, 1).sheet(2, 1, 5);
        x.due("seen(3, 9)", 1);
        return x.due("get(2, 2, 0)", Integer.MIN_VALUE).due("count(8)", 3);
    }

    /** Each row is a call, its answer and, where a FINDING is not told by that, the FINDING. */
    private static void allRefused(Asked x, String... rows) {
        for (String row : rows) {
            int end = row.indexOf(')') + 1;
            String[] words = row.substring(end + 1).split(" ");
            long want = words[0].equals("MIN") ? Integer.MIN_VALUE : Long.parseLong(words[0]);
            if (words.length == 1) x.refused(row.substring(0, end), want);
            else x.refused(row.substring(0, end), want, Integer.parseInt(words[1]));
        }
    }

    // ---- each refusal by itself, and that the state is as it was

    static void textsRefuse() {
        allRefused(full(), "type(-1, 48) -2", "type(2, 48) -2", "type(0, -1) -2", "type(0, 256) -2", "type(0, 48) -4",
            "type(1, 48) -4", "wipe(-1) -2", "wipe(2) -2", "undo(-1) -2", "undo(2) -2", "fault(-1) -2", "fault(2) -2");
        allRefused(empty(), "type(-1, 48) -2", "type(2, 48) -2", "type(0, -1) -2", "type(1, 256) -2", "wipe(2) -2",
            "undo(0) -3", "undo(1) -3", "undo(-1) -2", "undo(2) -2", "fault(2) -2");
        allRefused(faulty(), "type(2, 48) -2", "type(0, 256) -2", "type(1, 48) -4", "wipe(-1) -2", "undo(2) -2",
            "fault(2) -2");
    }

    static void swellsAndRollRefuse() {
        allRefused(full(), "swell(-1, 0) -2", "swell(6, 0) -2", "swell(0, -1) -2", "swell(0, 2) -2", "roll(-1) -2",
            "roll(2) -2");
        allRefused(empty(), "swell(0, 0) -2", "swell(0, 1) -2", "swell(-1, 0) -2", "roll(-1) -2", "roll(2) -2");
        allRefused(faulty(), "swell(0, 0) -2", "swell(1, 0) -2", "roll(2) -2");
    }

    static void settingsRefuse() {
        allRefused(full(), "begins(-1, 0) -2", "begins(6, 0) -2", "begins(0, -1) -2", "begins(5, 99) -2", "lee(-1, 0) -2",
            "lee(2, 0) -2", "lee(0, -1) -2", "lee(0, 400) -2", "lee(1, -1) -2", "lee(1, 400) -2", "set(-1, 1) -2",
            "set(12, 1) -2", "set(0, -1) -2", "set(0, 1000) -2", "set(1, 0) -2", "set(1, 13) -2", "set(2, 0) -2",
            "set(2, 31) -2", "set(3, -1) -2", "set(3, 100) -2", "set(4, -1) -2", "set(4, 17) -2", "set(5, -1) -2",
            "set(5, 17) -2", "set(6, -1) -2", "set(6, 17) -2", "set(7, -1) -2", "set(7, 17) -2", "set(8, -1) -2",
            "set(8, 17) -2", "set(9, -1) -2", "set(9, 17) -2", "set(10, 0) -2", "set(10, 10) -2", "set(11, -1) -2",
            "set(11, 10) -2");
    }

    static void heightsRefuse() {
        String[] rows = {"high(-1) -2", "high(400) -2", "does(-1) -2", "does(400) -2", "leans(-1) -2", "leans(400) -2",
            "crest(-1, 1) -2", "crest(400, 1) -2", "crest(0, 0) -2", "crest(0, 100) -2", "seventh(-1) -2",
            "seventh(400) -2", "lull(-1, 1, 0) -2", "lull(400, 1, 0) -2", "lull(0, 0, 0) -2", "lull(0, 101, 0) -2",
            "lull(0, 1, -1) -2", "lull(0, 1, 2) -2"};
        allRefused(full(), rows);
        allRefused(empty(), rows);
    }

    static void stepsRefuse() {
        String[] rows = {"step(-1) -2", "step(400) -2", "fall(-1) -2", "fall(400) -2", "climb(-1) -2", "climb(400) -2",
            "bangs(-1) -2", "bangs(400) -2", "best(-1, 1) -2", "best(400, 1) -2", "best(0, 0) -2", "best(0, 101) -2",
            "call(-1, 1) -2", "call(400, 1) -2", "call(0, 0) -2", "call(0, 101) -2", "down(-1, 1, 0) -2",
            "down(400, 1, 0) -2", "down(0, 0, 0) -2", "down(0, 101, 0) -2", "down(0, 1, -1) -2", "down(0, 1, 2) -2",
            "ladder(-1, 1) -2", "ladder(400, 1) -2", "ladder(0, 0) -2", "ladder(0, 101) -2"};
        allRefused(full(), rows);
        allRefused(empty(), rows);
    }

    /** "Where the answer is a long, a refusal -x is the least long and x more." */
    static void whereTheAnswerIsALong() {
        String[] rows = {"safe(-1, 0) -9223372036854775806", "safe(400, 1) -9223372036854775806",
            "safe(0, -1) -9223372036854775806", "safe(0, 2) -9223372036854775806", "safe(400, 2) -9223372036854775806"};
        allRefused(full(), rows);
        allRefused(empty(), rows);
    }

    static void seenAndNightsRefuse() {
        allRefused(full(), "seen(-1, 0) -2", "seen(400, 0) -2", "seen(0, -1) -2", "seen(0, 3001) -2", "seen(0, 0) -4",
            "read(-1) -2", "read(4) -2", "read(3) -11", "learn(-1, 0) -2", "learn(6, 0) -2", "learn(0, -2) -2",
            "learn(0, 98) -2", "night(1, 0) -2", "night(1, 21) -2");
        allRefused(empty(), "seen(-1, 0) -2", "seen(400, 0) -2", "seen(0, -1) -2", "seen(0, 3001) -2", "read(-1) -2",
            "read(4) -2", "read(0) -11", "learn(0, 0) -2", "learn(0, NONE) -2", "night(1, 0) -2", "night(1, 21) -2");
        allRefused(faulty(), "learn(0, 0) -2", "learn(0, NONE) -2", "read(0) -11", "read(3) -11");
    }

    static void sheetsRefuse() {
        allRefused(full(), "sheet(-1, 0, 1) -2", "sheet(4, 0, 1) -2", "sheet(0, -1, 1) -2", "sheet(0, 3, 1) -2",
            "sheet(0, 0, 49) -2", "sheet(0, 0, -1) -15", "sheet(3, 2, -1) -15", "lose(-1) -2", "lose(4) -2",
            "lose(3) -11", "put(-1, 0, 0, 1) -2", "put(4, 0, 0, 1) -2", "put(0, -1, 0, 1) -2", "put(0, 3, 0, 1) -2",
            "put(3, 0, 0, 1) -11", "put(0, 1, 0, 1) -13", "put(0, 0, 48, 1) -12", "put(1, 1, 3, 1) -12",
            "put(1, 1, -1, 1) -12", "get(-1, 0, 0) MIN 0", "get(4, 0, 0) MIN 0", "get(0, -1, 0) MIN 0",
            "get(0, 3, 0) MIN 0", "get(3, 0, 0) MIN 1", "get(0, 1, 0) MIN 3", "get(0, 0, 48) MIN 2", "get(0, 0, -1) MIN 2");
        allRefused(faulty(), "put(1, 1, 0, 1) -12", "get(1, 1, 0) MIN 2", "put(1, 2, 0, 1) -13", "get(1, 2, 0) MIN 3",
            "put(0, 0, 0, 1) -11", "get(0, 0, 0) MIN 1", "lose(0) -11");
    }

    static void copyWriteAndCountRefuse() {
        allRefused(full(), "copy(-1, 0, 0, 0, 1) -2", "copy(4, 0, 0, 0, 1) -2", "copy(0, 0, -1, 0, 1) -2",
            "copy(0, 0, 4, 0, 1) -2", "copy(3, 0, 0, 0, 1) -11", "copy(0, 0, 3, 0, 1) -11", "copy(0, 0, 1, 0, 1) -14",
            "copy(0, -1, 0, 0, 1) -12", "copy(0, 0, 0, -1, 1) -12", "copy(0, 0, 0, 0, -1) -12", "copy(0, 0, 0, 0, 49) -12",
            "copy(0, 1, 0, 0, 48) -12", "copy(0, 0, 0, 1, 48) -12", "copy(0, 49, 0, 0, 0) -12", "copy(0, 0, 0, 49, 0) -12",
            "write(-1, 0) -2", "write(400, 0) -2", "write(0, -1) -2", "write(0, 4) -2", "write(0, 3) -11", "count(-1) -2",
            "count(9) -2");
    }

    // ---- the first of two that fit

    /** type: "BAD; FULL". */
    static void badIsAheadOfFull() {
        allRefused(full(), "type(0, 256) -2", "type(0, -1) -2", "type(1, 256) -2", "type(1, -1) -2", "type(2, 48) -2",
            "seen(400, 0) -2", "seen(-1, 0) -2", "seen(0, 3001) -2", "seen(0, -1) -2");
    }

    /** undo: "BAD; NOT". */
    static void badIsAheadOfNot() {
        allRefused(empty(), "undo(-1) -2", "undo(2) -2");
    }

    /** read, lose, write: "BAD; NULL". */
    static void badIsAheadOfNull() {
        allRefused(empty(), "write(400, 0) -2", "write(-1, 3) -2", "write(0, 4) -2", "put(0, 3, 0, 0) -2",
            "put(0, -1, 0, 0) -2", "get(0, 3, 0) MIN 0", "get(0, -1, 0) MIN 0", "copy(0, 0, 4, 0, 1) -2",
            "copy(4, 0, 0, 0, 1) -2", "copy(-1, 0, 0, 0, 1) -2", "copy(0, 0, -1, 0, 1) -2");
    }

    /** read: "BAD; NULL", where all SEEN is full, too. */
    static void nullIsAheadOfFull() {
        allRefused(full(), "read(3) -11");
    }

    /** sheet: "BAD: SHEET, FORM, above 48; SIZE". */
    static void badIsAheadOfSize() {
        allRefused(full(), "sheet(4, 0, -1) -2", "sheet(-1, 0, -1) -2", "sheet(0, 3, -1) -2", "sheet(0, -1, MIN) -2");
    }

    /** put, get: "BAD; NULL; CAST; INDEX". */
    static void badIsAheadOfCastAndIndex() {
        allRefused(full(), "put(0, 3, 48, 1) -2", "put(4, 0, 48, 1) -2", "get(0, 3, 48) MIN 0", "get(4, 0, -1) MIN 0");
    }

    static void nullIsAheadOfIndex() {
        allRefused(full(), "put(3, 0, -1, 1) -11", "put(3, 2, 48, 1) -11", "get(3, 0, -1) MIN 1", "get(3, 2, 48) MIN 1",
            "copy(3, -1, 0, 0, 1) -11", "copy(0, 0, 3, -1, 1) -11", "copy(3, 0, 3, 0, -1) -11");
    }

    static void castIsAheadOfIndex() {
        allRefused(full(), "put(0, 1, -1, 1) -13", "put(1, 2, 48, 1) -13", "get(0, 1, -1) MIN 3", "get(1, 2, 48) MIN 3");
    }

    /** copy: "BAD: the SHEETS; NULL: s, t; STORE; INDEX". */
    static void badIsAheadOfStoreAndIndex() {
        allRefused(full(), "copy(4, -1, 1, 0, 1) -2", "copy(0, 0, 4, 0, -1) -2", "copy(4, 0, 3, 0, 1) -2",
            "copy(3, 0, 4, 0, 1) -2");
    }

    /** A LOST SHEET has the FORM that it had no more: NULL, whether FORMS were like or not. */
    static void nullIsAheadOfStore() {
        Asked x = full().due("lose(1)", 3);
        allRefused(x, "copy(0, 0, 1, 0, 1) -11", "copy(1, 0, 0, 0, 1) -11", "copy(1, 0, 2, 99, 1) -11",
            "copy(1, 0, 1, 0, 0) -11", "put(1, 1, 0, 5) -11", "put(1, 0, 0, 5) -11");
    }

    static void storeIsAheadOfIndex() {
        allRefused(full(), "copy(0, -1, 1, 0, 1) -14", "copy(0, 0, 1, 0, 4) -14", "copy(0, 0, 2, 49, 0) -14",
            "copy(1, 9, 2, 9, -9) -14");
    }

    /** What is NONE by a right number is BAD by a wrong one. */
    static void badIsAheadOfNone() {
        allRefused(empty(), "roll(2) -2", "crest(0, 100) -2", "crest(400, 99) -2", "lull(399, 2, 2) -2", "seventh(400) -2",
            "call(0, 101) -2");
        allRefused(full(), "learn(0, 98) -2", "climb(400) -2");
    }

    // ---- calls that answer and change nothing

    static void callsThatOnlyTellChangeNothing() {
        String[] calls = {"fault(0)", "fault(1)", "swell(0, 0)", "swell(5, 1)", "roll(0)", "roll(1)", "high(40)", "does(40)",
            "leans(40)", "crest(0, 3)", "crest(0, 99)", "seventh(0)", "lull(0, 20, 1)", "lull(399, 2, 0)", "step(40)",
            "fall(40)", "climb(0)", "climb(399)", "bangs(0)", "best(0, 100)", "call(0, 100)", "down(0, 100, 1)", "saves()",
            "ladder(0, 100)", "learn(0, NONE)", "learn(0, 97)", "night(1, 20)", "night(MIN, 1)", "get(0, 0, 0)", "count(8)"};
        for (String call : calls) {
            // A call that is not refused is held against its own answer: that it leaves all as it was.
            Asked x = full();
            x.refused(call, x.twin().ask(call), 0);
        }
        Asked x = full();
        x.refused("safe(0, 0)", x.twin().ask("safe(0, 0)"), 0).refused("digest()", x.twin().ask("digest()"), 0);
    }

    // ---- no call ever throws

    /** Each call with each number, on an object that all the others of that call came to, too. */
    private static void noneThrows(Asked state) {
        for (String call : CALLS) {
            Asked x = state.twin();
            for (String number : NUMBERS) x.ask(call.replace("#", number));
            x.ask("digest()");
            Due.due(call + " answered", 1, 1);
        }
    }

    static void noCallThrowsByAnyNumber() {
        noneThrows(full());
        noneThrows(empty());
        noneThrows(faulty());
        noneThrows(Asked.with("902;999", "902").having(0, 0, 1, 12, 10, 9).lee(399, 399));
    }
}
