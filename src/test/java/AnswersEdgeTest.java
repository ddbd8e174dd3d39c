/** The boundary cases that the promises 7 to 16 name: each sentence has a test of its own. */
public final class AnswersEdgeTest {
    public static void main(String[] args) {
        countAnotherWhat();
        countEmptyAndFull();
        endFromAndTo();
        endOfNoneSuch();
        entryOfEmptyAndAll();
        entryOfOtherVertices();
        entryBelowZero();
        missedOfTheEmptySet();
        missedLikewise();
        packsWithoutBranchings();
        packsWithOneVertex();
        stopperFirstInOrder();
        stopperNotEmpty();
        stopperFewer();
        stopperJustWhenPacks();
        ownerWhenNoneDoes();
        ownerWithoutPacking();
        ownerOfNoSuchArc();
        wayToARoot();
        wayWithoutPacking();
        wayOfNoSuchBranching();
        wayToNoSuchVertex();
        wayThatThisBranchingUses();
        spareStays();
        spareWithoutAnArc();
        spareOfNoSuchArc();
        mostWithoutOthers();
        mostAsManyAsOneLikes();
        mostWithoutEnd();
        mostOfTheEmptySet();
        mostOfOtherVertices();
        mostBelowZero();
        Check.finish();
    }

    private static void countAnotherWhat() {
        Check.sentence("7: NONE for another what");
        BranchPacker x = Nets.planted(Nets.net(5, "01 12 23"), 1, 2);
        Check.due("count(-1)", x.count(-1), -1);
        Check.due("count(3)", x.count(3), -1);
        for (int what : Nets.FAR) {
            Check.due("count(" + what + ")", x.count(what), -1);
        }
        Nets.counts("the good ones", x, 5, 3, 2);
    }

    private static void countEmptyAndFull() {
        Check.sentence("7: how many");
        Nets.counts("new", new BranchPacker(), 1, 0, 0);
        Nets.counts("full", Nets.planted(Nets.fullNet(), 1, 2, 4), 7, 14, 3);
    }

    private static void endFromAndTo() {
        Check.sentence("8: which = 0 from where it goes, 1 to where");
        BranchPacker x = Nets.net(7, "60 06 06 06 06 06 06 06 06 06 06 06 06 16");
        Check.due("end(0, 0)", x.end(0, 0), 6);
        Check.due("end(0, 1)", x.end(0, 1), 0);
        Check.due("end(13, 0)", x.end(13, 0), 1);
        Check.due("end(13, 1)", x.end(13, 1), 6);
    }

    private static void endOfNoneSuch() {
        Check.sentence("8: NONE when there is none such");
        BranchPacker full = Nets.fullNet();
        for (int which = 0; which < 2; which++) {
            Check.due("end(-1, " + which + ")", full.end(-1, which), -1);
            Check.due("end(14, " + which + ")", full.end(14, which), -1);
            for (int e : Nets.FAR) {
                Check.due("end(" + e + ", " + which + ")", full.end(e, which), -1);
            }
        }
        Check.due("end(0, -1)", full.end(0, -1), -1);
        Check.due("end(0, 2)", full.end(0, 2), -1);
        for (int which : Nets.FAR) {
            Check.due("end(0, " + which + ")", full.end(0, which), -1);
        }
        BranchPacker x = Nets.net(3, "01 12");
        Check.due("of two, end(2, 0)", x.end(2, 0), -1);
        x.drop(0);
        Check.due("of one, end(1, 0)", x.end(1, 0), -1);
        x.drop(0);
        Check.due("of none, end(0, 1)", x.end(0, 1), -1);
    }

    private static void entryOfEmptyAndAll() {
        Check.sentence("9: how many arcs the entry of a set has");
        BranchPacker x = Nets.fullNet();
        Check.due("entry(0)", x.entry(0), 0);
        Check.due("entry(127)", x.entry(127), 0);
        Check.due("entry(1)", x.entry(1), 2);
        Check.due("entry(64)", x.entry(64), 2);
        Check.due("entry(126)", x.entry(126), 2);
        Check.due("entry(0) without arcs", Nets.net(2, "").entry(0), 0);
        Check.due("entry(1) without arcs", Nets.net(2, "").entry(1), 0);
        Check.due("all 14", Nets.net(2, "01 01 01 01 01 01 01 01 01 01 01 01 01 01").entry(2), 14);
    }

    private static void entryOfOtherVertices() {
        Check.sentence("9: NONE when it has other vertices");
        for (int n = 1; n <= 7; n++) {
            BranchPacker x = Nets.net(n, n == 1 ? "" : "01");
            for (int k = n; k < 31; k++) {
                Check.due("of " + n + ", entry of " + k, x.entry(1 << k), -1);
                Check.due("of " + n + ", entry of 0 and " + k, x.entry(1 + (1 << k)), -1);
            }
            Check.due("of " + n + ", entry of all", x.entry((1 << n) - 1), 0);
        }
    }

    private static void entryBelowZero() {
        Check.sentence("9: NONE when it is below 0");
        BranchPacker x = Nets.net(7, "01");
        Check.due("entry(-1)", x.entry(-1), -1);
        Check.due("entry(-126)", x.entry(-126), -1);
        Check.due("entry(MIN)", x.entry(Integer.MIN_VALUE), -1);
        Check.due("entry(MIN + 2)", x.entry(Integer.MIN_VALUE + 2), -1);
    }

    private static void missedOfTheEmptySet() {
        Check.sentence("10: all, of the empty one");
        BranchPacker x = Nets.net(7, "");
        Check.due("of none", x.missed(0), 0);
        for (int i = 1; i <= 3; i++) {
            x.plant(127);
            Check.due("of " + i, x.missed(0), i);
            Check.due("of " + i + ", missed(127)", x.missed(127), 0);
        }
    }

    private static void missedLikewise() {
        Check.sentence("10: NONE likewise");
        for (int n = 1; n <= 7; n++) {
            BranchPacker x = Nets.planted(Nets.net(n, ""), 1);
            for (int k = n; k < 31; k++) {
                Check.due("of " + n + ", missed of " + k, x.missed(1 << k), -1);
                Check.due("of " + n + ", missed of 0 and " + k, x.missed(1 + (1 << k)), -1);
            }
            Check.due("of " + n + ", missed(-1)", x.missed(-1), -1);
            Check.due("of " + n + ", missed(-2)", x.missed(-2), -1);
            Check.due("of " + n + ", missed(MIN)", x.missed(Integer.MIN_VALUE), -1);
            Check.due("of " + n + ", missed of all", x.missed((1 << n) - 1), 0);
        }
    }

    private static void packsWithoutBranchings() {
        Check.sentence("11: without branchings there is");
        Check.due("no arcs", Nets.net(7, "").packs(), true);
        Check.due("14 arcs", Nets.fullNet().packs(), true);
        BranchPacker x = Nets.planted(Nets.net(7, ""), 1);
        Check.due("with one", x.packs(), false);
        x.fell();
        Check.due("without it", x.packs(), true);
    }

    private static void packsWithOneVertex() {
        Check.sentence("11: with one vertex there is");
        BranchPacker x = new BranchPacker();
        for (int i = 0; i <= 3; i++) {
            Check.due("of " + i, x.packs(), true);
            Check.due("of " + i, x.stopper(), 0);
            x.plant(1);
        }
        Check.same("no ways", Nets.ways(x), "- / - / -");
    }

    private static void stopperFirstInOrder() {
        Check.sentence("12: the first set in ORDER");
        Check.due("{1} of many", Nets.planted(Nets.net(3, ""), 1).stopper(), 2);
        Check.due("{6} before {1, 2}", Nets.planted(Nets.net(7, "12 21 03 34 45"), 1).stopper(), 64);
        Check.due("{1, 4} before {2, 3}", Nets.planted(Nets.net(5, "14 41 23 32"), 1).stopper(), 18);
        Check.due("the last of all", Nets.planted(Nets.net(7, "12 23 34 45 56 61"), 1).stopper(), 126);
    }

    private static void stopperNotEmpty() {
        Check.sentence("12: not empty");
        for (int branchings = 1; branchings <= 3; branchings++) {
            BranchPacker x = Nets.net(7, "");
            for (int i = 0; i < branchings; i++) {
                x.plant(63);
            }
            Check.due(branchings + " that all miss the empty set, too", x.stopper(), 64);
        }
    }

    private static void stopperFewer() {
        Check.sentence("12: whose entry has fewer arcs than there are branchings that miss it");
        BranchPacker x = Nets.planted(Nets.net(2, "01 01"), 1, 1);
        Check.due("two for two", x.stopper(), 0);
        x.plant(1);
        Check.due("two for three", x.stopper(), 2);
        x.arc(0, 1);
        Check.due("three for three", x.stopper(), 0);
        x.fell();
        x.plant(2);
        Check.due("none for one", x.stopper(), 1);
        Check.due("a pair with one for two", Nets.planted(Nets.net(3, "01 12 21 12"), 1, 1).stopper(), 6);
    }

    private static void stopperJustWhenPacks() {
        Check.sentence("12: 0 when there is none (so just when packs())");
        Check.due("without branchings", Nets.net(7, "").stopper(), 0);
        Check.due("all are roots", Nets.planted(Nets.net(7, ""), 127, 127, 127).stopper(), 0);
        BranchPacker x = Nets.planted(Nets.fullNet(), 1, 1, 126);
        Check.due("full, packs()", x.packs(), true);
        Check.due("full, stopper()", x.stopper(), 0);
        x.fell();
        x.plant(125);
        Check.due("another root, packs()", x.packs(), false);
        Check.due("another root, stopper()", x.stopper(), 2);
    }

    private static void ownerWhenNoneDoes() {
        Check.sentence("13: NONE when none does");
        Check.same("one is not needed", Nets.owners(Nets.planted(Nets.net(2, "01 01"), 1)), "0-");
        Check.same("without branchings", Nets.owners(Nets.net(2, "01 10")), "--");
        Check.same("roots are all", Nets.owners(Nets.planted(Nets.net(2, "01 10"), 3)), "--");
        Check.same("the last of 14", Nets.owners(Nets.planted(Nets.fullNet(), 1, 1, 126)).substring(13), "1");
    }

    private static void ownerWithoutPacking() {
        Check.sentence("13: NONE when there is no packing");
        BranchPacker x = Nets.planted(Nets.net(3, "01 02"), 1);
        Check.same("with a packing", Nets.owners(x), "00");
        x.plant(2);
        Check.same("without", Nets.owners(x), "--");
        x.fell();
        Check.same("with one again", Nets.owners(x), "00");
    }

    private static void ownerOfNoSuchArc() {
        Check.sentence("13: NONE when there is no such arc");
        BranchPacker x = Nets.planted(Nets.net(2, "01 01"), 1, 1);
        Check.due("owner(1)", x.owner(1), 1);
        Check.due("owner(2)", x.owner(2), -1);
        Check.due("owner(-1)", x.owner(-1), -1);
        x.fell();
        x.drop(1);
        Check.due("owner(1) behind a drop", x.owner(1), -1);
        BranchPacker full = Nets.planted(Nets.fullNet(), 1);
        Check.due("owner(14) of 14", full.owner(14), -1);
        for (int e : Nets.FAR) {
            Check.due("owner(" + e + ")", full.owner(e), -1);
        }
        Check.due("of none", Nets.planted(Nets.net(2, ""), 3).owner(0), -1);
    }

    private static void wayToARoot() {
        Check.sentence("14: NONE when that is a root of it");
        Check.same("one root", Nets.ways(Nets.planted(Nets.net(2, "10 01"), 1)), "- 1");
        Check.same("two roots", Nets.ways(Nets.planted(Nets.net(3, "10 01 12"), 3)), "- - 2");
        Check.same("all are roots", Nets.ways(Nets.planted(Nets.net(2, "10 01"), 3)), "- -");
        // Vertex 1 is a root of the one, and the other comes to it.
        Check.same("another's root", Nets.ways(Nets.planted(Nets.net(2, "10 01"), 1, 2)), "- 1 / 0 -");
    }

    private static void wayWithoutPacking() {
        Check.sentence("14: NONE when there is no packing");
        BranchPacker x = Nets.planted(Nets.net(3, "01 02"), 1);
        Check.same("with a packing", Nets.ways(x), "- 0 1");
        x.plant(2);
        Check.same("without", Nets.ways(x), "- - - / - - -");
    }

    private static void wayOfNoSuchBranching() {
        Check.sentence("14: NONE when there is no such branching");
        // Arc 1 is of none, and must not be told as that of the branching -1.
        BranchPacker x = Nets.planted(Nets.net(2, "01 01"), 1);
        Check.due("way(1, 1)", x.way(1, 1), -1);
        Check.due("way(-1, 1)", x.way(-1, 1), -1);
        Check.due("way(3, 1)", x.way(3, 1), -1);
        for (int branching : Nets.FAR) {
            Check.due("way(" + branching + ", 1)", x.way(branching, 1), -1);
        }
        x.plant(1);
        Check.due("way(1, 1), once planted", x.way(1, 1), 1);
        x.fell();
        Check.due("way(1, 1), once felled", x.way(1, 1), -1);
        x.fell();
        Check.due("way(0, 1) of none", x.way(0, 1), -1);
    }

    private static void wayToNoSuchVertex() {
        Check.sentence("14: NONE when there is no such vertex");
        BranchPacker full = Nets.planted(Nets.fullNet(), 1);
        Check.due("way(0, 6)", full.way(0, 6), 5);
        Check.due("way(0, 7)", full.way(0, 7), -1);
        for (int vertex : Nets.FAR) {
            Check.due("way(0, " + vertex + ")", full.way(0, vertex), -1);
        }
        // What was in the larger net before is no vertex of this one.
        full.begin(2);
        full.arc(0, 1);
        full.plant(1);
        Check.due("way(0, 1) of two", full.way(0, 1), 0);
        Check.due("way(0, 2) of two", full.way(0, 2), -1);
    }

    private static void wayThatThisBranchingUses() {
        Check.sentence("14: it is the arc that this branching uses");
        BranchPacker x = Nets.planted(Nets.net(2, "01 01 01"), 1, 1, 1);
        Check.same("by arcs the same way", Nets.ways(x), "- 0 / - 1 / - 2");
        BranchPacker full = Nets.planted(Nets.fullNet(), 1, 1, 126);
        for (int branching = 0; branching < 3; branching++) {
            for (int vertex = 0; vertex < 7; vertex++) {
                int e = full.way(branching, vertex);
                boolean isRoot = branching == 2 ? vertex > 0 : vertex == 0;
                String call = "way(" + branching + ", " + vertex + ")";
                Check.due(call + " is NONE", e == -1, isRoot);
                Check.due("owner of " + call, full.owner(e), isRoot ? -1 : branching);
                Check.due("end of " + call, full.end(e, 1), isRoot ? -1 : vertex);
            }
        }
    }

    private static void spareStays() {
        Check.sentence("15: an arc (which stays)");
        BranchPacker x = Nets.planted(Nets.net(3, "01 01 12 20"), 1);
        String before = Nets.all(x);
        for (int e = 0; e < 4; e++) {
            x.spare(e);
            Check.same("spare(" + e + ")", Nets.all(x), before);
        }
    }

    private static void spareWithoutAnArc() {
        Check.sentence("15: whether there would be a packing without an arc");
        BranchPacker x = Nets.planted(Nets.net(3, "01 01 12 20"), 1);
        Check.due("owned, but another can", x.spare(0), true);
        Check.due("not owned", x.spare(1), true);
        Check.due("the only one", x.spare(2), false);
        Check.due("to a root", x.spare(3), true);
        x.plant(1);
        Check.due("no packing with it", x.spare(3), false);
        Check.due("without branchings", Nets.net(2, "01").spare(0), true);
        Check.due("all are roots", Nets.planted(Nets.net(2, "01"), 3, 3, 3).spare(0), true);
        BranchPacker full = Nets.planted(Nets.fullNet(), 1, 1);
        Check.due("the last of 14, to 1", full.spare(13), false);
        Check.due("the 13th of 14, to the root", full.spare(12), true);
        Check.due("only a pair is short", Nets.planted(Nets.net(3, "01 02 12 21 12"), 1, 1).spare(0), false);
    }

    private static void spareOfNoSuchArc() {
        Check.sentence("15: false also when there is no such arc");
        Check.due("of none", Nets.net(2, "").spare(0), false);
        Check.due("of one vertex", new BranchPacker().spare(0), false);
        BranchPacker x = Nets.net(2, "01 01");
        Check.due("spare(1)", x.spare(1), true);
        Check.due("spare(2)", x.spare(2), false);
        Check.due("spare(-1)", x.spare(-1), false);
        x.drop(0);
        Check.due("spare(1) behind a drop", x.spare(1), false);
        BranchPacker full = Nets.fullNet();
        Check.due("spare(13) of 14", full.spare(13), true);
        Check.due("spare(14) of 14", full.spare(14), false);
        for (int e : Nets.FAR) {
            Check.due("spare(" + e + ")", full.spare(e), false);
        }
    }

    private static void mostWithoutOthers() {
        Check.sentence("16: if there were no others (those planted are not looked at)");
        BranchPacker x = Nets.net(2, "01 01");
        for (int i = 0; i <= 3; i++) {
            Check.due("with " + i + " planted, most(1)", x.most(1), 2);
            Check.due("with " + i + " planted, most(2)", x.most(2), 0);
            Check.due("with " + i + " planted, most(3)", x.most(3), 99);
            Check.due("with " + i + " planted, count(2)", x.count(2), i);
            x.plant(1);
        }
    }

    private static void mostAsManyAsOneLikes() {
        Check.sentence("16: as many as one likes were let in");
        BranchPacker x = Nets.net(2, "");
        for (int arcs = 0; arcs <= 14; arcs++) {
            Check.due("of " + arcs + " arcs, most(1)", x.most(1), arcs);
            x.arc(0, 1);
        }
        Check.due("a pair is short", Nets.net(3, "01 12 21 12").most(1), 1);
        Check.due("of seven vertices", Nets.fullNet().most(64), 2);
    }

    private static void mostWithoutEnd() {
        Check.sentence("16: 99 when there is no end to it (roots being all vertices)");
        Check.due("of a new object", new BranchPacker().most(1), 99);
        for (int n = 2; n <= 7; n++) {
            int all = (1 << n) - 1;
            Check.due("of " + n + ", no arcs", Nets.net(n, "").most(all), 99);
            Check.due("of " + n + ", some arcs", Nets.net(n, "01 10").most(all), 99);
            for (int v = 0; v < n; v++) {
                Check.due("of " + n + ", all but " + v, Nets.net(n, "").most(all - (1 << v)), 0);
            }
        }
    }

    private static void mostOfTheEmptySet() {
        Check.sentence("16: NONE when the set is empty");
        for (int n = 1; n <= 7; n++) {
            Check.due("of " + n + ", most(0)", Nets.net(n, n == 1 ? "" : "01 10").most(0), -1);
        }
    }

    private static void mostOfOtherVertices() {
        Check.sentence("16: NONE when the set has other vertices");
        for (int n = 1; n <= 7; n++) {
            BranchPacker x = Nets.net(n, n == 1 ? "" : "01");
            for (int k = n; k < 31; k++) {
                Check.due("of " + n + ", most of " + k, x.most(1 << k), -1);
                Check.due("of " + n + ", most of all and " + k, x.most((1 << n) - 1 + (1 << k)), -1);
            }
        }
    }

    private static void mostBelowZero() {
        Check.sentence("16: NONE when the set is below 0");
        for (int n = 1; n <= 7; n++) {
            BranchPacker x = Nets.net(n, "");
            Check.due("of " + n + ", most(-1)", x.most(-1), -1);
            Check.due("of " + n + ", most(-2)", x.most(-2), -1);
            Check.due("of " + n + ", most(MIN)", x.most(Integer.MIN_VALUE), -1);
            Check.due("of " + n + ", most(MIN + 1)", x.most(Integer.MIN_VALUE + 1), -1);
        }
    }
}
