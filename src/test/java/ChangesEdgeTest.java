/** The boundary cases that the promises 1 to 6 name: each sentence has a test of its own. */
public final class ChangesEdgeTest {
    public static void main(String[] args) {
        newObject();
        eachNewObject();
        beginOneToSeven();
        beginTheSameNumber();
        beginWithoutArcsAndBranchings();
        beginNotOneToSeven();
        arcBehindTheOthers();
        arcTheSameWay();
        arcBeyondFourteen();
        arcOfOneVertex();
        arcOfOtherVertices();
        dropRenumbersThoseBehind();
        dropTellsTheNetAsItIs();
        dropOfNoneSuch();
        plantBehindTheOthers();
        plantAnothersRoots();
        plantBeyondThree();
        plantTheEmptySet();
        plantOtherVertices();
        plantBelowZero();
        fellTheLast();
        fellDownToNone();
        fellOfNone();
        Check.finish();
    }

    private static void newObject() {
        Check.sentence("1: one vertex; no arcs, no branchings");
        BranchPacker x = new BranchPacker();
        Nets.counts("new", x, 1, 0, 0);
        Check.due("arc(0, 1)", x.arc(0, 1), -1);
        Check.due("drop(0)", x.drop(0), false);
        Check.due("fell()", x.fell(), -1);
        Check.due("end(0, 0)", x.end(0, 0), -1);
        Check.due("entry(1)", x.entry(1), 0);
        Check.due("entry(2)", x.entry(2), -1);
        Check.due("missed(0)", x.missed(0), 0);
        Check.due("missed(1)", x.missed(1), 0);
        Check.due("packs()", x.packs(), true);
        Check.due("stopper()", x.stopper(), 0);
        Check.due("owner(0)", x.owner(0), -1);
        Check.due("way(0, 0)", x.way(0, 0), -1);
        Check.due("spare(0)", x.spare(0), false);
        Check.due("most(1)", x.most(1), 99);
        Check.due("plant(2)", x.plant(2), -1);
        Check.due("plant(1)", x.plant(1), 0);
    }

    private static void eachNewObject() {
        Check.sentence("1: each object for itself");
        BranchPacker used = Nets.planted(Nets.net(3, "01"), 1);
        BranchPacker x = new BranchPacker();
        Nets.counts("the new one", x, 1, 0, 0);
        x.begin(2);
        x.arc(1, 0);
        Nets.counts("the one before", used, 3, 1, 1);
        Check.same("the one before", Nets.arcs(used), "01");
    }

    private static void beginOneToSeven() {
        Check.sentence("2: answers true");
        for (int n = 1; n <= 7; n++) {
            BranchPacker x = Nets.planted(Nets.net(4, "01 12 23"), 1, 2);
            Check.due("begin(" + n + ")", x.begin(n), true);
            Nets.counts("begin(" + n + ")", x, n, 0, 0);
        }
    }

    private static void beginTheSameNumber() {
        Check.sentence("2: a new net of n vertices (also the same number)");
        for (int n = 1; n <= 7; n++) {
            BranchPacker x = Nets.planted(Nets.net(n, n == 1 ? "" : "01 10"), 1);
            Check.due("begin(" + n + ") again", x.begin(n), true);
            Nets.counts("begin(" + n + ") again", x, n, 0, 0);
        }
    }

    private static void beginWithoutArcsAndBranchings() {
        Check.sentence("2: without arcs and branchings");
        BranchPacker x = Nets.planted(Nets.fullNet(), 1, 1, 126);
        Check.due("owner(0) before", x.owner(0), 0);
        x.begin(7);
        Check.due("entry(1)", x.entry(1), 0);
        Check.due("missed(0)", x.missed(0), 0);
        Check.due("end(0, 0)", x.end(0, 0), -1);
        Check.due("owner(0)", x.owner(0), -1);
        Check.due("way(0, 1)", x.way(0, 1), -1);
        Check.due("drop(0)", x.drop(0), false);
        Check.due("fell()", x.fell(), -1);
        Check.due("arc(5, 6)", x.arc(5, 6), 0);
        Check.due("owner(0) of the new arc", x.owner(0), -1);
        Check.due("plant(95)", x.plant(95), 0);
        Check.due("missed(32)", x.missed(32), 1);
    }

    private static void beginNotOneToSeven() {
        Check.sentence("2: false when n is not 1 .. 7");
        BranchPacker x = Nets.planted(Nets.net(4, "01 12 23"), 1, 2);
        Check.due("begin(0)", x.begin(0), false);
        Check.due("begin(8)", x.begin(8), false);
        for (int n : Nets.FAR) {
            Check.due("begin(" + n + ")", x.begin(n), false);
        }
        // Of these a few bits alone would be a good number.
        int[] wrapped = {8 + 3, 32 + 3, 256 + 3, (1 << 16) + 3, 3 - 256, Integer.MIN_VALUE + 3};
        for (int n : wrapped) {
            Check.due("begin(" + n + ")", x.begin(n), false);
        }
        Nets.counts("in the end", x, 4, 3, 2);
    }

    private static void arcBehindTheOthers() {
        Check.sentence("3: one more arc, from a to b, behind the others; answers its number");
        BranchPacker x = Nets.net(7, "");
        Check.due("arc(6, 0)", x.arc(6, 0), 0);
        Check.due("arc(0, 6)", x.arc(0, 6), 1);
        Check.due("arc(5, 6)", x.arc(5, 6), 2);
        Check.same("arcs", Nets.arcs(x), "60 06 56");
        x.drop(0);
        Check.due("arc(6, 5) behind a drop", x.arc(6, 5), 2);
        Check.same("arcs", Nets.arcs(x), "06 56 65");
        BranchPacker told = Nets.planted(Nets.net(2, "10"), 1);
        Check.same("no packing before it", Nets.owners(told), "-");
        told.arc(0, 1);
        Check.same("a packing behind it", Nets.owners(told), "-0");
    }

    private static void arcTheSameWay() {
        Check.sentence("3: others may go the same way");
        BranchPacker x = Nets.net(2, "");
        Check.due("arc(0, 1)", x.arc(0, 1), 0);
        Check.due("arc(0, 1) again", x.arc(0, 1), 1);
        Check.due("arc(1, 0)", x.arc(1, 0), 2);
        Check.due("arc(1, 0) again", x.arc(1, 0), 3);
        Check.due("entry(2)", x.entry(2), 2);
    }

    private static void arcBeyondFourteen() {
        Check.sentence("3: NONE when there are 14");
        BranchPacker x = Nets.net(2, "01 01 01 01 01 01 01 01 01 01 01 01 01");
        Check.due("the 14th", x.arc(1, 0), 13);
        Check.due("the 15th", x.arc(0, 1), -1);
        Check.due("the 15th, from no vertex", x.arc(2, 1), -1);
        Check.due("count(1)", x.count(1), 14);
        Check.due("drop(0)", x.drop(0), true);
        Check.due("the 14th again", x.arc(1, 0), 13);
        Check.due("the 15th again", x.arc(1, 0), -1);
        Check.due("begin(2)", x.begin(2), true);
        Check.due("the first of a new net", x.arc(1, 0), 0);
    }

    private static void arcOfOneVertex() {
        Check.sentence("3: NONE when these are not two different vertices: the same");
        for (int n = 1; n <= 7; n++) {
            BranchPacker x = Nets.net(n, "");
            for (int v = 0; v <= n; v++) {
                Check.due("of " + n + ", arc(" + v + ", " + v + ")", x.arc(v, v), -1);
            }
            Check.due("of " + n + ", count(1)", x.count(1), 0);
        }
    }

    private static void arcOfOtherVertices() {
        Check.sentence("3: NONE when these are not two different vertices: others");
        for (int n = 1; n <= 7; n++) {
            BranchPacker x = Nets.net(n, "");
            Check.due("of " + n + ", arc(0, " + n + ")", x.arc(0, n), -1);
            Check.due("of " + n + ", arc(" + n + ", 0)", x.arc(n, 0), -1);
            Check.due("of " + n + ", arc(0, " + (n + 32) + ")", x.arc(0, n + 32), -1);
            for (int v : Nets.FAR) {
                Check.due("of " + n + ", arc(0, " + v + ")", x.arc(0, v), -1);
                Check.due("of " + n + ", arc(" + v + ", 0)", x.arc(v, 0), -1);
                Check.due("of " + n + ", arc(" + v + ", " + n + ")", x.arc(v, n), -1);
            }
            Check.due("of " + n + ", count(1)", x.count(1), 0);
        }
    }

    private static void dropRenumbersThoseBehind() {
        Check.sentence("4: those behind it are each numbered one less");
        String[] left = {"12 23 34 45", "01 23 34 45", "01 12 34 45", "01 12 23 45", "01 12 23 34"};
        for (int e = 0; e < 5; e++) {
            BranchPacker x = Nets.net(6, "01 12 23 34 45");
            Check.due("drop(" + e + ")", x.drop(e), true);
            Check.same("drop(" + e + ")", Nets.arcs(x), left[e]);
        }
        BranchPacker first = Nets.fullNet();
        Check.due("the first of 14", first.drop(0), true);
        Check.same("the first of 14", Nets.arcs(first), "12 23 34 45 56 60 02 13 24 35 46 50 61");
        BranchPacker last = Nets.fullNet();
        Check.due("the last of 14", last.drop(13), true);
        Check.same("the last of 14", Nets.arcs(last), "01 12 23 34 45 56 60 02 13 24 35 46 50");
    }

    private static void dropTellsTheNetAsItIs() {
        Check.sentence("4: what is told is of the net as it is");
        BranchPacker x = Nets.planted(Nets.net(2, "10 01 01"), 1);
        Check.same("owners before", Nets.owners(x), "-0-");
        Check.due("spare(1) before", x.spare(1), true);
        x.drop(0);
        Check.same("owners without arc 0", Nets.owners(x), "0-");
        Check.same("ways without arc 0", Nets.ways(x), "- 0");
        Check.due("entry(1)", x.entry(1), 0);
        x.drop(0);
        Check.same("owners without the owned one", Nets.owners(x), "0");
        Check.due("spare(0) now", x.spare(0), false);
        Check.due("most(1)", x.most(1), 1);
        x.drop(0);
        Check.due("packs()", x.packs(), false);
        Check.due("stopper()", x.stopper(), 2);
        Check.same("no way", Nets.ways(x), "- -");
    }

    private static void dropOfNoneSuch() {
        Check.sentence("4: false when there is none such");
        BranchPacker full = Nets.fullNet();
        Check.due("drop(14) of 14", full.drop(14), false);
        Check.due("drop(-1) of 14", full.drop(-1), false);
        for (int e : Nets.FAR) {
            Check.due("drop(" + e + ") of 14", full.drop(e), false);
        }
        Check.due("count(1)", full.count(1), 14);
        BranchPacker x = Nets.net(3, "01 12");
        Check.due("drop(2) of two", x.drop(2), false);
        Check.due("drop(1) of two", x.drop(1), true);
        Check.due("drop(1) of one", x.drop(1), false);
        Check.due("drop(0) of one", x.drop(0), true);
        Check.due("drop(0) of none", x.drop(0), false);
    }

    private static void plantBehindTheOthers() {
        Check.sentence("5: one more branching, behind the others, with these roots; answers its number");
        BranchPacker x = Nets.net(7, "");
        Check.due("plant(1)", x.plant(1), 0);
        Check.due("plant(64)", x.plant(64), 1);
        Check.due("plant(127)", x.plant(127), 2);
        Check.due("missed(1)", x.missed(1), 1);
        Check.due("missed(64)", x.missed(64), 1);
        Check.due("missed(62)", x.missed(62), 2);
        BranchPacker told = Nets.net(2, "01");
        Check.same("none before it", Nets.owners(told), "-");
        told.plant(1);
        Check.same("one behind it", Nets.owners(told), "0");
        told.plant(2);
        Check.same("no packing behind another", Nets.owners(told), "-");
    }

    private static void plantAnothersRoots() {
        Check.sentence("5: perhaps another's too");
        BranchPacker x = Nets.net(2, "01 01 01");
        for (int i = 0; i < 3; i++) {
            Check.due("plant(1)", x.plant(1), i);
        }
        Check.due("missed(2)", x.missed(2), 3);
        Check.same("owners", Nets.owners(x), "012");
    }

    private static void plantBeyondThree() {
        Check.sentence("5: NONE when there are 3");
        BranchPacker x = Nets.planted(Nets.net(3, ""), 1, 2);
        Check.due("the third", x.plant(4), 2);
        Check.due("the fourth", x.plant(1), -1);
        Check.due("the fourth, all vertices", x.plant(7), -1);
        Check.due("count(2)", x.count(2), 3);
        Check.due("missed(0)", x.missed(0), 3);
        Check.due("fell()", x.fell(), 2);
        Check.due("the third again", x.plant(1), 2);
        Check.due("missed(1)", x.missed(1), 1);
        Check.due("the fourth again", x.plant(1), -1);
    }

    private static void plantTheEmptySet() {
        Check.sentence("5: NONE when the set is empty");
        for (int n = 1; n <= 7; n++) {
            BranchPacker x = Nets.net(n, "");
            Check.due("of " + n + ", plant(0)", x.plant(0), -1);
            Check.due("of " + n + ", plant(1)", x.plant(1), 0);
            Check.due("of " + n + ", plant(0) behind it", x.plant(0), -1);
            Check.due("of " + n + ", count(2)", x.count(2), 1);
        }
    }

    private static void plantOtherVertices() {
        Check.sentence("5: NONE when the set has other vertices");
        for (int n = 1; n <= 7; n++) {
            BranchPacker x = Nets.net(n, "");
            for (int k = n; k < 31; k++) {
                Check.due("of " + n + ", plant of " + k, x.plant(1 << k), -1);
                Check.due("of " + n + ", plant of 0 and " + k, x.plant(1 + (1 << k)), -1);
            }
            Check.due("of " + n + ", count(2)", x.count(2), 0);
            Check.due("of " + n + ", plant of all", x.plant((1 << n) - 1), 0);
        }
    }

    private static void plantBelowZero() {
        Check.sentence("5: NONE when the set is below 0");
        BranchPacker x = Nets.net(7, "");
        Check.due("plant(-1)", x.plant(-1), -1);
        Check.due("plant(-127)", x.plant(-127), -1);
        Check.due("plant(MIN)", x.plant(Integer.MIN_VALUE), -1);
        Check.due("plant(MIN + 1)", x.plant(Integer.MIN_VALUE + 1), -1);
        Check.due("plant(MIN + 127)", x.plant(Integer.MIN_VALUE + 127), -1);
        Check.due("count(2)", x.count(2), 0);
    }

    private static void fellTheLast() {
        Check.sentence("6: the last branching goes");
        BranchPacker x = Nets.planted(Nets.net(3, "01 12"), 1, 2, 4);
        Check.same("no packing before it", Nets.owners(x), "--");
        x.fell();
        Check.due("missed(4)", x.missed(4), 2);
        Check.due("missed(1)", x.missed(1), 1);
        x.fell();
        Check.due("missed(1)", x.missed(1), 0);
        Check.due("missed(2)", x.missed(2), 1);
        Check.same("a packing behind it", Nets.owners(x), "00");
        Check.due("way(1, 2)", x.way(1, 2), -1);
        x.fell();
        Check.same("none behind the last one", Nets.owners(x), "--");
    }

    private static void fellDownToNone() {
        Check.sentence("6: answers how many are left");
        BranchPacker x = Nets.planted(Nets.net(3, ""), 1, 2, 4);
        for (int left = 2; left >= 0; left--) {
            Check.due("fell()", x.fell(), left);
            Check.due("count(2)", x.count(2), left);
        }
        Check.due("plant behind it", x.plant(1), 0);
        Check.due("fell()", x.fell(), 0);
    }

    private static void fellOfNone() {
        Check.sentence("6: NONE when there are none");
        Check.due("of a new object", new BranchPacker().fell(), -1);
        BranchPacker x = Nets.planted(Nets.net(3, ""), 1);
        x.fell();
        Check.due("once all are felled", x.fell(), -1);
        Check.due("and again", x.fell(), -1);
        Check.due("count(2)", x.count(2), 0);
        Nets.planted(x, 1, 2).begin(3);
        Check.due("behind begin", x.fell(), -1);
    }
}
