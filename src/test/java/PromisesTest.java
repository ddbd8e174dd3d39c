/** For each promise its ordinary inputs, and some edges and wrong inputs; the edge tests have all of them. */
public final class PromisesTest {
    public static void main(String[] args) {
        newObject();
        begin();
        arc();
        drop();
        plant();
        fell();
        count();
        end();
        entry();
        missed();
        packs();
        stopper();
        owner();
        ownerOfAnArcThatMustWait();
        way();
        spare();
        most();
        Check.finish();
    }

    private static void newObject() {
        Nets.counts("1: new", new BranchPacker(), 1, 0, 0);
        Check.due("1: new packs()", new BranchPacker().packs(), true);
        Check.due("1: new entry(1)", new BranchPacker().entry(1), 0);
        Check.due("1: new entry(2)", new BranchPacker().entry(2), -1);
        BranchPacker used = Nets.planted(Nets.net(3, "01"), 1);
        Nets.counts("1: another object", new BranchPacker(), 1, 0, 0);
        Nets.counts("1: the used object", used, 3, 1, 1);
    }

    private static void begin() {
        for (int n = 1; n <= 7; n++) {
            BranchPacker x = Nets.planted(Nets.net(4, "01 12 23"), 1, 2);
            Check.due("2: begin(" + n + ")", x.begin(n), true);
            Nets.counts("2: begin(" + n + ")", x, n, 0, 0);
            Check.due("2: arc to the last vertex of " + n, x.arc(0, n - 1), n == 1 ? -1 : 0);
            Check.due("2: arc to one more than " + n, x.arc(0, n), -1);
        }
        int[] wrong = {0, 8, -1, Integer.MIN_VALUE, Integer.MAX_VALUE};
        for (int n : wrong) {
            BranchPacker x = Nets.planted(Nets.net(4, "01 12 23"), 1, 2);
            Check.due("2: begin(" + n + ")", x.begin(n), false);
            Nets.counts("2: refused begin(" + n + ")", x, 4, 3, 2);
        }
        BranchPacker x = Nets.planted(Nets.net(2, "01"), 1);
        Check.due("2: owner(0) before", x.owner(0), 0);
        x.begin(2);
        x.arc(0, 1);
        Check.due("2: owner(0) after begin, nothing planted", x.owner(0), -1);
    }

    private static void arc() {
        BranchPacker x = Nets.net(3, "");
        Check.due("3: arc(0, 1)", x.arc(0, 1), 0);
        Check.due("3: arc(0, 1) again", x.arc(0, 1), 1);
        Check.due("3: arc(1, 0)", x.arc(1, 0), 2);
        Check.due("3: arc(1, 1)", x.arc(1, 1), -1);
        Check.due("3: arc(0, 3)", x.arc(0, 3), -1);
        Check.due("3: arc(3, 0)", x.arc(3, 0), -1);
        Check.due("3: arc(-1, 0)", x.arc(-1, 0), -1);
        Check.due("3: arc(0, -1)", x.arc(0, -1), -1);
        Nets.counts("3: refused", x, 3, 3, 0);
        for (int e = 3; e < 14; e++) {
            Check.due("3: arc(2, 0)", x.arc(2, 0), e);
        }
        Check.due("3: the 15th arc", x.arc(2, 0), -1);
        Nets.counts("3: full", x, 3, 14, 0);
        x.drop(13);
        Check.due("3: arc once there is room", x.arc(2, 1), 13);
        Check.due("3: its end", x.end(13, 1), 1);
        BranchPacker told = Nets.planted(Nets.net(2, "10"), 1);
        Check.due("3: no packing yet", told.owner(0), -1);
        told.arc(0, 1);
        Check.due("3: owner of the new arc", told.owner(1), 0);
    }

    private static void drop() {
        BranchPacker x = Nets.net(4, "01 12 23 30");
        Check.due("4: drop(4)", x.drop(4), false);
        Check.due("4: drop(-1)", x.drop(-1), false);
        Nets.counts("4: refused", x, 4, 4, 0);
        Check.due("4: drop(1)", x.drop(1), true);
        Nets.counts("4: dropped", x, 4, 3, 0);
        int[][] left = {{0, 1}, {2, 3}, {3, 0}};
        for (int e = 0; e < 3; e++) {
            Check.due("4: end(" + e + ", 0)", x.end(e, 0), left[e][0]);
            Check.due("4: end(" + e + ", 1)", x.end(e, 1), left[e][1]);
        }
        Check.due("4: end(3, 0)", x.end(3, 0), -1);
        Check.due("4: drop the last", x.drop(2), true);
        Check.due("4: drop the first", x.drop(0), true);
        Check.due("4: end of the one left", x.end(0, 0), 2);
        Check.due("4: drop it", x.drop(0), true);
        Check.due("4: drop from none", x.drop(0), false);
        BranchPacker full = Nets.net(2, "01 01 01 01 01 01 01 01 01 01 01 01 01 10");
        Check.due("4: drop of 14", full.drop(0), true);
        Check.due("4: last of 13", full.end(12, 0), 1);
        BranchPacker told = Nets.planted(Nets.net(2, "10 01 01"), 1);
        Check.due("4: owner(0) before", told.owner(0), -1);
        Check.due("4: owner(1) before", told.owner(1), 0);
        told.drop(0);
        Check.due("4: owner(0) behind it", told.owner(0), 0);
        Check.due("4: owner(1) behind it", told.owner(1), -1);
        Check.due("4: way(0, 1) behind it", told.way(0, 1), 0);
    }

    private static void plant() {
        BranchPacker x = Nets.net(3, "01");
        Check.due("5: plant(0)", x.plant(0), -1);
        Check.due("5: plant(8)", x.plant(8), -1);
        Check.due("5: plant(9)", x.plant(9), -1);
        Check.due("5: plant(-1)", x.plant(-1), -1);
        Check.due("5: plant(MIN)", x.plant(Integer.MIN_VALUE), -1);
        Nets.counts("5: refused", x, 3, 1, 0);
        Check.due("5: plant(7)", x.plant(7), 0);
        Check.due("5: plant(2)", x.plant(2), 1);
        Check.due("5: plant(2) again", x.plant(2), 2);
        Check.due("5: plant, the fourth", x.plant(1), -1);
        Nets.counts("5: full", x, 3, 1, 3);
        Check.due("5: missed(5)", x.missed(5), 2);
    }

    private static void fell() {
        BranchPacker x = Nets.planted(Nets.net(3, "01 12"), 1, 2, 4);
        Check.due("6: fell()", x.fell(), 2);
        Check.due("6: missed(4)", x.missed(4), 2);
        Check.due("6: missed(1)", x.missed(1), 1);
        Check.due("6: fell()", x.fell(), 1);
        Check.due("6: owner(0)", x.owner(0), 0);
        Check.due("6: fell()", x.fell(), 0);
        Check.due("6: owner(0) of none", x.owner(0), -1);
        Check.due("6: fell() of none", x.fell(), -1);
        Nets.counts("6: felled", x, 3, 2, 0);
        Check.due("6: plant behind it", x.plant(2), 0);
    }

    private static void count() {
        BranchPacker x = Nets.planted(Nets.net(5, "01 12 23"), 1, 2);
        Nets.counts("7:", x, 5, 3, 2);
        Check.due("7: count(3)", x.count(3), -1);
        Check.due("7: count(-1)", x.count(-1), -1);
        Check.due("7: count(MAX)", x.count(Integer.MAX_VALUE), -1);
    }

    private static void end() {
        BranchPacker x = Nets.net(7, "60 16");
        Check.due("8: end(0, 0)", x.end(0, 0), 6);
        Check.due("8: end(0, 1)", x.end(0, 1), 0);
        Check.due("8: end(1, 0)", x.end(1, 0), 1);
        Check.due("8: end(1, 1)", x.end(1, 1), 6);
        Check.due("8: end(0, 2)", x.end(0, 2), -1);
        Check.due("8: end(0, -1)", x.end(0, -1), -1);
        Check.due("8: end(2, 0)", x.end(2, 0), -1);
        Check.due("8: end(-1, 0)", x.end(-1, 0), -1);
        Check.due("8: end(14, 1)", x.end(14, 1), -1);
    }

    private static void entry() {
        BranchPacker x = Nets.net(3, "01 01 12 20 21");
        int[] due = {0, 1, 3, 2, 1, 1, 2, 0};
        for (int set = 0; set < 8; set++) {
            Check.due("9: entry(" + set + ")", x.entry(set), due[set]);
        }
        Check.due("9: entry(8)", x.entry(8), -1);
        Check.due("9: entry(9)", x.entry(9), -1);
        Check.due("9: entry(-1)", x.entry(-1), -1);
        Check.due("9: entry(MIN)", x.entry(Integer.MIN_VALUE), -1);
    }

    private static void missed() {
        BranchPacker x = Nets.planted(Nets.net(3, ""), 1, 3, 4);
        int[] due = {3, 1, 2, 1, 2, 0, 1, 0};
        for (int set = 0; set < 8; set++) {
            Check.due("10: missed(" + set + ")", x.missed(set), due[set]);
        }
        Check.due("10: missed(8)", x.missed(8), -1);
        Check.due("10: missed(-1)", x.missed(-1), -1);
        Check.due("10: missed(0) of none", Nets.net(2, "").missed(0), 0);
    }

    private static void packs() {
        Check.due("11: without branchings", Nets.net(7, "").packs(), true);
        Check.due("11: one vertex", Nets.planted(Nets.net(1, ""), 1, 1, 1).packs(), true);
        Check.due("11: all are roots", Nets.planted(Nets.net(3, ""), 7, 7).packs(), true);
        Check.due("11: one way, one branching", Nets.planted(Nets.net(2, "01"), 1).packs(), true);
        Check.due("11: one way, two branchings", Nets.planted(Nets.net(2, "01"), 1, 1).packs(), false);
        Check.due("11: the wrong way", Nets.planted(Nets.net(2, "10"), 1).packs(), false);
        Check.due("11: against each other", Nets.planted(Nets.net(2, "01 10"), 1, 2).packs(), true);
        // Each vertex but the root has two arcs to it, yet 1 and 2 together have but one from outside.
        Check.due("11: a pair is short", Nets.planted(Nets.net(3, "01 12 21 12"), 1, 1).packs(), false);
        BranchPacker x = Nets.planted(Nets.net(2, ""), 1);
        Check.due("11: before the arc", x.packs(), false);
        x.arc(0, 1);
        Check.due("11: behind the arc", x.packs(), true);
    }

    private static void stopper() {
        Check.due("12: none", Nets.planted(Nets.net(2, "01"), 1).stopper(), 0);
        Check.due("12: without branchings", Nets.net(3, "").stopper(), 0);
        Check.due("12: one of many", Nets.planted(Nets.net(3, ""), 1).stopper(), 2);
        Check.due("12: the larger one alone", Nets.planted(Nets.net(3, "01 12 21 12"), 1, 1).stopper(), 6);
        Check.due("12: fewer first", Nets.planted(Nets.net(4, "12 21"), 1).stopper(), 8);
        // {1, 4} = 18 and {2, 3} = 12 stop; the first has 1, the least number that only one has.
        Check.due("12: the least number, not the least sum", Nets.planted(Nets.net(5, "14 41 23 32"), 1).stopper(), 18);
        // {0, 3} = 9 against {1, 2} = 6, of branchings from 4.
        Check.due("12: the least number again", Nets.planted(Nets.net(5, "03 30 12 21"), 16).stopper(), 9);
        Check.due("12: the last vertex", Nets.planted(Nets.net(7, "01 12 23 34 45"), 1).stopper(), 64);
        Check.due("12: all but the root", Nets.planted(Nets.net(3, "12 21"), 1).stopper(), 6);
    }

    private static void owner() {
        BranchPacker x = Nets.planted(Nets.net(3, "12 01 02 21 10"), 1, 1);
        int[] due = {0, 0, 1, 1, -1};
        for (int e = 0; e < due.length; e++) {
            Check.due("13: owner(" + e + ")", x.owner(e), due[e]);
        }
        Check.due("13: owner(5)", x.owner(5), -1);
        Check.due("13: owner(-1)", x.owner(-1), -1);
        Check.due("13: owner(14)", x.owner(14), -1);
        x.plant(1);
        Check.due("13: no packing", x.owner(0), -1);
        x.fell();
        Check.due("13: a packing again", x.owner(3), 1);
        Check.due("13: roots are all", Nets.planted(Nets.net(2, "01"), 3).owner(0), -1);
        Check.due("13: without branchings", Nets.net(2, "01").owner(0), -1);
    }

    private static void ownerOfAnArcThatMustWait() {
        // Arc 0 is the only one out of 1, where branching 1 begins, so 0 must not come to 2 by it.
        BranchPacker x = Nets.planted(Nets.net(3, "12 01 02 20"), 1, 2);
        int[] due = {1, 0, 0, 1};
        for (int e = 0; e < due.length; e++) {
            Check.due("13: waiting owner(" + e + ")", x.owner(e), due[e]);
        }
        // By arc 1 branching 0 comes to 1; only then it can take arc 0, which has a lesser number than 2.
        BranchPacker back = Nets.planted(Nets.net(3, "12 01 02"), 1);
        Check.due("13: back owner(0)", back.owner(0), 0);
        Check.due("13: back owner(1)", back.owner(1), 0);
        Check.due("13: back owner(2)", back.owner(2), -1);
    }

    private static void way() {
        BranchPacker x = Nets.planted(Nets.net(3, "12 01 02 20"), 1, 2);
        int[][] due = {{-1, 1, 2}, {3, -1, 0}};
        for (int branching = 0; branching < 2; branching++) {
            for (int vertex = 0; vertex < 3; vertex++) {
                Check.due("14: way(" + branching + ", " + vertex + ")", x.way(branching, vertex), due[branching][vertex]);
            }
        }
        Check.due("14: way(2, 0)", x.way(2, 0), -1);
        Check.due("14: way(-1, 0)", x.way(-1, 0), -1);
        Check.due("14: way(0, 3)", x.way(0, 3), -1);
        Check.due("14: way(0, -1)", x.way(0, -1), -1);
        // Arc 4 is of no branching, which way(-1, 2) must not tell.
        x.arc(0, 2);
        Check.due("14: way(-1, 2)", x.way(-1, 2), -1);
        x.drop(3);
        Check.due("14: no packing", x.way(0, 1), -1);
        x.fell();
        Check.due("14: felled, way(0, 2)", x.way(0, 2), 0);
        Check.due("14: felled, way(1, 2)", x.way(1, 2), -1);
    }

    private static void spare() {
        BranchPacker x = Nets.planted(Nets.net(3, "01 01 12 20"), 1);
        boolean[] due = {true, true, false, true};
        for (int e = 0; e < due.length; e++) {
            Check.due("15: spare(" + e + ")", x.spare(e), due[e]);
        }
        Nets.counts("15: all stay", x, 3, 4, 1);
        Check.due("15: it stays in the packing", x.owner(0), 0);
        Check.due("15: spare(4)", x.spare(4), false);
        Check.due("15: spare(-1)", x.spare(-1), false);
        x.drop(0);
        Check.due("15: spare(0) now", x.spare(0), false);
        x.plant(1);
        Check.due("15: no packing", x.spare(2), false);
        Check.due("15: without branchings", Nets.net(2, "01").spare(0), true);
        Check.due("15: no arc", Nets.net(2, "").spare(0), false);
    }

    private static void most() {
        BranchPacker x = Nets.planted(Nets.net(3, "01 01 12 12 02"), 4, 4, 4);
        int[] due = {-1, 2, 0, 3, 0, 2, 0, 99};
        for (int roots = 0; roots < 8; roots++) {
            Check.due("16: most(" + roots + ")", x.most(roots), due[roots]);
        }
        Check.due("16: most(8)", x.most(8), -1);
        Check.due("16: most(-1)", x.most(-1), -1);
        Check.due("16: most(MIN)", x.most(Integer.MIN_VALUE), -1);
        Nets.counts("16: those planted stay", x, 3, 5, 3);
        Check.due("16: one vertex", new BranchPacker().most(1), 99);
        Check.due("16: 14 at once", Nets.net(2, "01 01 01 01 01 01 01 01 01 01 01 01 01 01").most(1), 14);
        Check.due("16: a pair is short", Nets.net(3, "01 12 21 12").most(1), 1);
    }
}
