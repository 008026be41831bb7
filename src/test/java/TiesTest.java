/** Of several that are as good, the lowest one is told: the stalest ear, the place of a knock, and the worst ear. */
public final class TiesTest {
    public static void main(String[] args) {
        stalest();
        stalestOfTenThumps();
        places();
        worstEars();
        worstOfTen();
        deafEarsAreNeverWorst();
        Answers.end();
    }

    private static void due(String call, long got, long want) {
        Answers.due(call, got, want);
    }

    /** Three ears, far apart, each of which is tuned by thumps at its place. */
    private static void stalest(int[] thumps, int want) {
        ThumpEars ears = new ThumpEars();
        ears.bury(0);
        ears.bury(500);
        ears.bury(1000);
        for (int i = 0; i < thumps.length; i++) {
            // 3 stands for a thump that all of them hear, and 4 for one that none hears
            int place = thumps[i] == 3 ? 500 : thumps[i] == 4 ? 250 : 500 * thumps[i];
            ears.thump(place, 2000 * i, thumps[i] == 3 ? 500 : 1);
        }
        due("stalest() behind " + java.util.Arrays.toString(thumps), ears.stalest(), want);
    }

    private static void stalest() {
        int[][] rows = {
            {0}, {4, 0}, {0, 1}, {1, 0}, {2, 0}, {0, 1, 2}, {1, 2, 0, 0}, {2, 1, 2, 1}, {0, 1, 2, 0}, {0, 1, 2, 3},
            {3}, {3, 3}, {3, 0}, {3, 0, 1}, {3, 0, 1, 3}, {0, 3, 0}, {3, 0, 2, 1}, {3, 1, 2, 0, 4}, {3, 2, 0},
            {4, 4, 4}, {2, 3, 4}, {3, 0, 3, 0, 2}, {2, 1, 0}, {1, 2, 0}, {0, 2, 1},
        };
        int[] wants = {1, 1, 2, 2, 1, 0, 1, 0, 1, 0, 0, 0, 1, 2, 0, 1, 0, 1, 1, 0, 0, 1, 2, 1, 0};
        for (int i = 0; i < rows.length; i++) {
            stalest(rows[i], wants[i]);
        }
        due("stalest() without ears", new ThumpEars().stalest(), ThumpEars.NONE);
        ThumpEars thumps = new ThumpEars();
        thumps.thump(0, 0, 1);
        due("stalest() without ears, behind a thump", thumps.stalest(), ThumpEars.NONE);
        thumps.bury(0);
        due("stalest() of one without marks", thumps.stalest(), 0);
    }

    private static void stalestOfTenThumps() {
        ThumpEars ears = new ThumpEars();
        for (int i = 0; i < 10; i++) {
            ears.bury(100 * i);
        }
        for (int i = 0; i < 9; i++) {
            ears.thump(100 * (9 - i), 10 * i, 1);
            due("nine thumps: stalest()", ears.stalest(), 0);
        }
        ears.thump(0, 100, 1);
        due("the ear of the last thump is no more: stalest()", ears.stalest(), 9);
        ears.leaveOut(9, true);
        due("the last thump is left out: stalest()", ears.stalest(), 0);
        ThumpEars one = new ThumpEars();
        one.bury(0);
        for (int i = 0; i < 10; i++) {
            one.thump(0, i, 1);
            due("one ear: stalest()", one.stalest(), 0);
        }
        one.bury(0);
        due("one ear and a new one: stalest()", one.stalest(), 1);
    }

    /** Ears at places, by how much their clocks are ahead, and where a knock comes from. */
    private static void place(int[] places, int[] offsets, int from, int want, long spread) {
        ThumpEars ears = new ThumpEars();
        for (int i = 0; i < places.length; i++) {
            ears.bury(places[i]);
            ears.setClock(i, offsets[i], 0);
        }
        ears.knock(from, 5000, 1000);
        String name = java.util.Arrays.toString(places) + java.util.Arrays.toString(offsets) + " from " + from;
        due(name + ": found(0, 0)", ears.found(0, 0), want);
        due(name + ": found(0, 2)", ears.found(0, 2), spread);
        due(name + ": spread at what is found", ears.spread(0, want), spread);
        due(name + ": truth(0, 2)", ears.truth(0, 2), Math.abs(want - from));
        for (int lower = 0; lower < want; lower += 50) {
            due(name + ": a lower place is worse", ears.spread(0, lower) > spread ? 1 : 0, 1);
        }
    }

    private static void places() {
        int[] inner = {300, 700};
        int[] none = {0, 0};
        // ahead of 300, and behind 700, all places are as good
        place(inner, none, 0, 0, 0);
        place(inner, none, 299, 0, 0);
        place(inner, none, 300, 0, 0);
        place(inner, none, 301, 301, 0);
        place(inner, none, 699, 699, 0);
        place(inner, none, 700, 700, 0);
        place(inner, none, 701, 700, 0);
        place(inner, none, 1000, 700, 0);
        place(inner, new int[] {0, 100}, 300, 0, 100000);
        place(inner, new int[] {100, 0}, 300, 317, 2000);
        place(inner, new int[] {100, 0}, 700, 700, 100000);
        int[] ends = {0, 1000};
        place(ends, none, 0, 0, 0);
        place(ends, none, 1, 1, 0);
        place(ends, none, 999, 999, 0);
        place(ends, none, 1000, 1000, 0);
        // one place more takes 6 ticks from the one to the other: with 3, two places are as good
        place(ends, new int[] {0, 1}, 500, 500, 1000);
        place(ends, new int[] {0, 2}, 500, 500, 2000);
        place(ends, new int[] {0, 3}, 500, 499, 3000);
        place(ends, new int[] {0, 4}, 500, 499, 2000);
        place(ends, new int[] {0, 6}, 500, 499, 0);
        place(ends, new int[] {2, 0}, 500, 500, 2000);
        place(ends, new int[] {3, 0}, 500, 500, 3000);
        place(ends, new int[] {4, 0}, 500, 501, 2000);
        // with all ears at one place, each place is as good
        place(new int[] {400, 400}, new int[] {0, 7}, 400, 0, 7000);
        place(new int[] {1000, 1000, 1000}, new int[] {5, 0, 9}, 1000, 0, 9000);
        place(new int[] {1000, 1000, 0}, new int[] {0, 0, 0}, 1000, 1000, 0);
        place(new int[] {0, 500, 1000, 500}, new int[] {0, 40, 0, 0}, 500, 494, 40000);
    }

    /** Ears at one place, by how much their clocks are ahead. */
    private static void worst(int[] offsets, int want) {
        ThumpEars ears = new ThumpEars();
        for (int i = 0; i < offsets.length; i++) {
            ears.bury(0);
            ears.setClock(i, offsets[i], 0);
        }
        ears.knock(0, 1000, 1);
        due("worst of " + java.util.Arrays.toString(offsets), ears.found(0, 5), want);
    }

    private static void worstEars() {
        int[][] rows = {
            {0, 0}, {0, 1}, {1, 0}, {0, 0, 4, 4}, {2, 0, 4}, {2, 4, 0}, {2, 2, 4, 0}, {2, 2, 0, 4}, {2, 3, 4, 0},
            {2, 1, 3, 0, 4}, {2, 1, 3, 4, 0}, {5, 5, 5, 5}, {1, 2, 3, 3}, {-500, 500}, {0, -500, 500}, {0, 500, -500},
            {1, 1, 0, 3, 3}, {2, 2, 3, 0, 0},
        };
        int[] wants = {0, 0, 0, 0, 1, 1, 2, 2, 2, 3, 3, 0, 0, 0, 1, 1, 2, 2};
        for (int i = 0; i < rows.length; i++) {
            worst(rows[i], wants[i]);
        }
    }

    private static void worstOfTen() {
        for (int ear = 0; ear < 10; ear++) {
            int[] early = {4, 4, 4, 4, 4, 4, 4, 4, 4, 4};
            early[ear] = -3;
            // the nine others are as far from the middle as the one
            worst(early, 0);
            int[] both = {4, 5, 6, 4, 5, 6, 4, 5, 6, 5};
            both[ear] = -20;
            worst(both, Math.min(ear, 2));
        }
    }

    /** Only ears that heard the knock are looked at, whatever their numbers are. */
    private static void deafEarsAreNeverWorst() {
        ThumpEars ears = new ThumpEars();
        int[] offsets = {400, 0, 9, 2, 0, -400};
        for (int i = 0; i < offsets.length; i++) {
            ears.bury(0);
            ears.setClock(i, offsets[i], 0);
        }
        ears.mute(0, true);
        ears.mute(5, true);
        due("knock(0, 1000, 1)", ears.knock(0, 1000, 1), 4);
        due("found(0, 5)", ears.found(0, 5), 1);
        due("found(0, 2)", ears.found(0, 2), 9000);
        ears.mute(1, true);
        due("knock(0, 1000, 1)", ears.knock(0, 1000, 1), 3);
        due("found(1, 5)", ears.found(1, 5), 2);
        ears.mute(2, true);
        due("knock(0, 1000, 1)", ears.knock(0, 1000, 1), 2);
        due("found(2, 5)", ears.found(2, 5), 3);
        due("found(2, 2)", ears.found(2, 2), 2000);
        ears.mute(3, true);
        due("knock(0, 1000, 1)", ears.knock(0, 1000, 1), 1);
        due("found(3, 5)", ears.found(3, 5), Answers.LONG_NOT_POSSIBLE);
        ears.mute(0, false);
        due("of those that heard it then: found(0, 5)", ears.found(0, 5), 1);
    }
}
