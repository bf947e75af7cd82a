/** Boundary cases, sentence by sentence: bridges, people, cities (promises 1 to 13 and their terms). */
public final class BoundsCitiesTest extends Bounds {
    private static final int ONE = 0, LOVER = 1, TWIN = 2, DEBTOR = 3, ENVOY = 4, WIDOW = 5, TOLD = 6;

    public static void main(String[] args) throws Exception { runAll(BoundsCitiesTest.class); }

    // ---- promise 1

    static void newObjectHasNothing() {
        says("No BRIDGES, no PEOPLE, no CITY.");
        BridgePairs x = new BridgePairs();
        for (int what = 0; what <= 7; what++) due(x.count(what), 0);
        for (int what = 0; what <= 4; what++) due(x.told(what), 0);
        due(x.of(0, 0), NO_SUCH);
        due(x.span(0, 0), NONE);
        due(x.trace(0), NONE);
        due(x.looked(), NOT_ANY);
        due(x.undo(), STATE);
        for (int tape = 0; tape <= 5; tape++) due(x.item(tape, 0, 0), NOTHING);
    }

    static void objectsShareNothing() {
        says("No BRIDGES, no PEOPLE, no CITY.");
        BridgePairs other = roadWith(ONE, 0);
        city(other, "dark 9");
        other.tape(0, 0, 1);
        other.image();
        newObjectHasNothing();
    }

    static void constants() {
        says("NONE = -1, BAD = -2, STATE = -3, FULL = -4; NO = Long.MIN_VALUE");
        due(BridgePairs.NONE, -1);
        due(BridgePairs.BAD, -2);
        due(BridgePairs.STATE, -3);
        due(BridgePairs.FULL, -4);
        due(BridgePairs.NO, Long.MIN_VALUE);
    }

    // ---- promise 2

    static void bridgeOfNoQuarter() {
        says("NONE: quarters");
        BridgePairs x = new BridgePairs();
        for (int no : new int[] {LEAST, -1, 6, MOST}) {
            due(x.bridge(no, 0), NONE);
            due(x.bridge(0, no), NONE);
        }
        due(x.bridge(-1, 6), NONE);
        due(x.count(1), 0);
    }

    static void bridgeOfLeastAndMostQuarter() {
        says("A BRIDGE between two QUARTERS (0 .. 5)");
        BridgePairs x = new BridgePairs();
        due(x.bridge(0, 5), 0);
        due(x.bridge(5, 0), 1);
        due(x.span(0, 0) * 10 + x.span(0, 1), 5);
        due(x.span(1, 0) * 10 + x.span(1, 1), 50);
    }

    static void bridgeFromAQuarterToItself() {
        says("BAD: one is both");
        BridgePairs x = new BridgePairs();
        for (int q = 0; q <= 5; q++) due(x.bridge(q, q), BAD);
        due(x.count(1), 0);
    }

    static void bridgeOfNoQuarterTwice() {
        says("NONE ahead of BAD");
        due(new BridgePairs().bridge(6, 6), NONE);
        due(new BridgePairs().bridge(-1, -1), NONE);
    }

    static void ninthBridge() {
        says("FULL: 8.");
        BridgePairs x = new BridgePairs();
        for (int b = 0; b <= 7; b++) due(x.bridge(2, 3), b);
        due(x.bridge(2, 3), FULL);
        due(x.bridge(0, 5), FULL);
        due(x.count(1), 8);
        due(x.span(8, 0), NONE);
    }

    static void ninthBridgeThatIsWrong() {
        says("NONE and BAD ahead of FULL");
        BridgePairs x = fanWith(ONE, 0);
        due(x.bridge(0, 6), NONE);
        due(x.bridge(6, 0), NONE);
        due(x.bridge(4, 4), BAD);
    }

    static void sistersAtFirst() {
        says("each one with an odd number and the one ahead of it are SISTERS at first");
        BridgePairs x = fanWith(ONE, 0);
        for (int b = 0; b <= 7; b++) due(x.span(b, 2), b % 2 == 0 ? b + 1 : b - 1);
    }

    static void lastEvenBridgeHasNoSister() {
        says("without a one behind it a BRIDGE with an even number has none");
        BridgePairs x = new BridgePairs();
        for (int b = 0; b <= 7; b += 2) {
            x.bridge(0, 1);
            due(x.span(b, 2), NOT_ANY);
            x.bridge(0, 1);
            due(x.span(b, 2), b + 1);
        }
    }

    static void newSistersBesideSwappedOnes() {
        says("each one with an odd number and the one ahead of it are SISTERS at first");
        BridgePairs x = road();
        x.swap(0, 2);
        x.bridge(4, 5);
        x.bridge(5, 0);
        due(x.span(5, 2), 4);
        due(x.span(4, 2), 5);
        due(x.span(0, 2), 3);
    }

    static void notLostAtFirst() {
        says("LOST, or not (not at first)");
        BridgePairs x = fanWith(ONE, 0);
        for (int b = 0; b <= 7; b++) due(x.span(b, 3), 0);
        due(x.told(4), 0);
    }

    // ---- promise 3

    static void oneOfNoKind() {
        says("NONE: kind");
        for (int no : new int[] {LEAST, -1, 7, MOST}) due(new BridgePairs().one(no, 0, 0), NONE);
    }

    static void oneInNoQuarter() {
        says("NONE: quarter");
        for (int no : new int[] {LEAST, -1, 6, MOST}) due(new BridgePairs().one(0, 0, no), NONE);
    }

    static void oneOfNoV() {
        says("BAD: v (0 .. 9)");
        for (int no : new int[] {LEAST, -1, 10, MOST}) due(new BridgePairs().one(0, no, 0), BAD);
    }

    static void oneOfEachKindWithLeastAndMost() {
        says("One more, AT and SAID to be in a QUARTER, without an ERRAND: its number.");
        for (int kind = 0; kind <= 6; kind++) {
            BridgePairs x = new BridgePairs();
            due(x.one(kind, 0, 0), 0);
            due(x.one(kind, 9, 5), 1);
            int[] due0 = {kind, 0, 0, 0, NOT_ANY, 0}, due1 = {kind, 9, 5, 5, NOT_ANY, 0};
            for (int what = 0; what <= 5; what++) {
                due(x.of(0, what), due0[what]);
                due(x.of(1, what), due1[what]);
            }
        }
    }

    static void oneOfNoKindAndNoV() {
        says("NONE ahead of BAD");
        due(new BridgePairs().one(7, 10, 0), NONE);
        due(new BridgePairs().one(0, 10, 6), NONE);
        due(new BridgePairs().one(0, -1, -1), NONE);
    }

    static void seventhOne() {
        says("FULL: 6.");
        BridgePairs x = new BridgePairs();
        for (int p = 0; p <= 5; p++) due(x.one(p, p, p), p);
        due(x.one(0, 0, 0), FULL);
        due(x.count(0), 6);
        due(x.of(5, 0), 5);
        due(x.of(6, 0), NO_SUCH);
    }

    static void seventhOneThatIsWrong() {
        says("NONE and BAD ahead of FULL");
        BridgePairs x = new BridgePairs();
        for (int p = 0; p <= 5; p++) x.one(0, 0, 0);
        due(x.one(7, 0, 0), NONE);
        due(x.one(0, 0, 6), NONE);
        due(x.one(0, 10, 0), BAD);
    }

    static void aFaultyOneTakesNoNumber() {
        says("What is answered so changes nothing.");
        BridgePairs x = new BridgePairs();
        x.one(0, 10, 0);
        x.one(7, 0, 0);
        due(x.one(1, 2, 3), 0);
    }

    // ---- promise 4

    static void ofNoOne() {
        says("-10001: NONE.");
        BridgePairs x = roadWith(ONE, 0);
        for (int no : new int[] {LEAST, -1, 1, 6, MOST}) due(x.of(no, 0), NO_SUCH);
    }

    static void ofNoWhat() {
        says("-10001: NONE.");
        BridgePairs x = fanWith(ONE, 0);
        for (int no : new int[] {LEAST, -1, 9, 18, 100, MOST}) due(x.of(0, no), NO_SUCH);
    }

    static void leaveForBridgesThatAre() {
        says("10 and b LEAVE for BRIDGE b (0 .. 7, if there is one)");
        BridgePairs x = new BridgePairs();
        x.one(0, 0, 0);
        for (int b = 0; b <= 7; b++) {
            due(x.of(0, 10 + b), NO_SUCH);
            x.bridge(0, 1);
            due(x.of(0, 10 + b), 3);
        }
        due(x.of(0, 18), NO_SUCH);
    }

    static void mayFromWhereItIs() {
        says("8 which BRIDGES it MAY cross from where it is AT (bits)");
        BridgePairs x = bridges(0, 1, 2, 3, 1, 0, 4, 5, 0, 5, 5, 0, 1, 5, 2, 0);
        x.one(0, 0, 0);
        due(x.of(0, 8), 1 | 4 | 16 | 32 | 128);
        x.lose(7, true);
        due(x.of(0, 8), 1 | 4 | 16 | 32);
        city(x, "bar 3 b=4");
        due(x.of(0, 8), 1 | 4 | 32);
        x.one(0, 0, 3);
        due(x.of(1, 8), 2);
    }

    static void mayWithoutBridges() {
        says("8 which BRIDGES it MAY cross from where it is AT (bits)");
        BridgePairs x = bridges(0, 1);
        x.one(0, 0, 5);
        due(x.of(0, 8), 0);
    }

    // ---- promise 5

    static void spanOfNoBridge() {
        says("NONE.");
        BridgePairs x = road();
        for (int no : new int[] {LEAST, -1, 4, 8, MOST}) due(x.span(no, 0), NONE);
    }

    static void spanOfNoWhat() {
        says("NONE.");
        BridgePairs x = road();
        for (int no : new int[] {LEAST, -1, 4, MOST}) due(x.span(0, no), NONE);
    }

    static void spanOfABridgeWithoutSister() {
        says("2 its SISTER (-5: none)");
        due(bridges(0, 1).span(0, 2), NOT_ANY);
    }

    static void spanOfALostBridge() {
        says("3 whether it is LOST");
        BridgePairs x = fanWith(ONE, 0);
        x.lose(7, true);
        due(x.span(7, 3), 1);
        due(x.span(6, 3), 0);
        x.lose(7, false);
        due(x.span(7, 3), 0);
    }

    // ---- promise 6

    static void errandOfNoOne() {
        says("NONE.");
        BridgePairs x = roadWith(ONE, 0);
        for (int no : new int[] {LEAST, -1, 1, MOST}) due(x.errand(no, 0), NONE);
        due(x.errand(1, -1), NONE);
    }

    static void errandInNoQuarter() {
        says("NONE.");
        BridgePairs x = roadWith(ONE, 0);
        x.errand(0, 3);
        for (int no : new int[] {LEAST, -2, -5, 6, MOST}) due(x.errand(0, no), NONE);
        due(x.of(0, 4), 3);
    }

    static void errandThatItHad() {
        says("which it had (-5: none)");
        BridgePairs x = roadWith(ONE, 0);
        due(x.errand(0, 0), NOT_ANY);
        due(x.errand(0, 5), 0);
        due(x.of(0, 4), 5);
        due(x.errand(0, 5), 5);
    }

    static void noErrand() {
        says("quarter -1: none");
        BridgePairs x = roadWith(ONE, 0);
        due(x.errand(0, -1), NOT_ANY);
        x.errand(0, 2);
        due(x.errand(0, -1), 2);
        due(x.of(0, 4), NOT_ANY);
    }

    // ---- promise 7

    static void crossOfNone() {
        says("NONE");
        BridgePairs x = roadWith(ONE, 0);
        for (int no : new int[] {LEAST, -1, 1, MOST}) due(x.cross(no, 0), NONE);
        for (int no : new int[] {LEAST, -1, 4, MOST}) due(x.cross(0, no), NONE);
    }

    static void crossFromElsewhere() {
        says("STATE: it is not AT an end of it");
        BridgePairs x = roadWith(ONE, 0);
        for (int b = 1; b <= 3; b++) due(x.cross(0, b), STATE);
        due(x.of(0, 2), 0);
    }

    static void crossWhatItMayNot() {
        says("STATE: it MAY not cross it");
        BridgePairs x = roadWith(ONE, 0);
        x.lose(0, true);
        due(x.cross(0, 0), STATE);
        x.lose(0, false);
        city(x, "bar 3 b=0");
        due(x.cross(0, 0), STATE);
        due(x.of(0, 2) + x.of(0, 5), 0);
        city(x, "bar 2 b=0");
        due(x.cross(0, 0), 1);
    }

    static void crossFromEitherEnd() {
        says("It MAY cross a BRIDGE from either end of it");
        BridgePairs x = roadWith(ONE, 0);
        due(x.cross(0, 0), 1);
        due(x.cross(0, 0), 0);
    }

    static void crossWhenNoneIsHalf() {
        says("else the BRIDGE is HALF, if it was not");
        BridgePairs x = roadWith(ONE, 0);
        x.cross(0, 0);
        due(x.of(0, 5), 1);
        due(x.of(0, 3), 0);
    }

    static void crossWhenTheSisterIsHalf() {
        says("if its SISTER is HALF, that is HALF no more");
        BridgePairs x = roadWith(ONE, 0);
        x.cross(0, 0);
        x.cross(0, 1);
        due(x.of(0, 5), 0);
    }

    static void crossWhenItIsHalfItself() {
        says("and is not, if it was");
        BridgePairs x = roadWith(ONE, 0);
        x.cross(0, 0);
        x.cross(0, 0);
        due(x.of(0, 5), 0);
        due(x.of(0, 3), 0);
    }

    static void crossWhenBothAreHalf() {
        says("if its SISTER is HALF, that is HALF no more; else ..");
        BridgePairs x = fanWith(ONE, 0);
        x.cross(0, 0);
        x.cross(0, 2);
        x.swap(0, 3);
        due(x.span(0, 2), 2);
        due(x.cross(0, 0), 1);
        due(x.of(0, 5), 1);
    }

    static void crossWithoutSister() {
        says("else the BRIDGE is HALF, if it was not, and is not, if it was");
        BridgePairs x = bridges(0, 1);
        x.one(0, 0, 0);
        x.cross(0, 0);
        due(x.of(0, 5), 1);
        x.cross(0, 0);
        due(x.of(0, 5), 0);
    }

    static void saidOnlyWhenNoneIsHalf() {
        says("If none is HALF then, it is SAID to be where it is AT.");
        BridgePairs x = roadWith(ONE, 0);
        for (int b = 0; b <= 3; b++) {
            x.cross(0, b);
            due(x.of(0, 3), b == 0 ? 0 : b < 3 ? 2 : 4);
        }
    }

    static void halfIsOfOneAlone() {
        says("HALF (BRIDGES, as bits; none at first)");
        BridgePairs x = roadWith(ONE, 0);
        x.one(0, 0, 1);
        x.cross(0, 0);
        x.cross(1, 1);
        due(x.of(0, 5), 1);
        due(x.of(1, 5), 2);
    }

    static void asManyHalfAsCanBe() {
        says("HALF (BRIDGES, as bits; none at first)");
        BridgePairs x = fanWith(ONE, 0);
        for (int b = 0; b < 8; b += 2) x.cross(0, b);
        due(x.of(0, 5), 1 | 4 | 16 | 64);
        x.swap(0, 3);
        x.swap(4, 7);
        due(x.span(1, 2) * 10 + x.span(5, 2), 37);
        x.cross(0, 1);
        x.cross(0, 5);
        due(x.of(0, 5), 119);
        x.swap(1, 7);
        due(x.span(3, 2), 7);
        due(x.cross(0, 3), 1);
        due(x.of(0, 5), 127);
        due(x.told(3), 7);
        due(x.of(0, 8), 255);
        city(x, "bar 3 n=7&b>0");
        due(x.of(0, 8), 1);
        // Seven bridges at least: each makes one HALF no more. The first must be 0 now.
        due(x.way(0, 0, -1), 7);
        due(x.way(0, 0, 0), 0);
        due(x.cross(0, 7), STATE);
        city(x, "dark 1");
        due(x.cross(0, 7), 0);
        due(x.of(0, 5), 119);
    }

    // ---- promise 8

    static void loseNoBridge() {
        says("NONE.");
        BridgePairs x = road();
        for (int no : new int[] {LEAST, -1, 4, 8, MOST}) {
            due(x.lose(no, true), NONE);
            due(x.lose(no, false), NONE);
        }
        due(x.told(4), 0);
    }

    static void loseWhetherItWas() {
        says("whether it was");
        BridgePairs x = road();
        due(x.lose(0, false), 0);
        due(x.lose(0, true), 0);
        due(x.lose(0, true), 1);
        due(x.lose(0, false), 1);
        due(x.lose(0, false), 0);
    }

    static void loseOneBesideOthers() {
        says("whether it was");
        for (int b = 0; b <= 7; b++) {
            BridgePairs x = fanWith(ONE, 0);
            due(x.lose(b, true), 0);
            due(x.lose(7 - b, true), 0);
            due(x.lose(b, false), 1);
            due(x.lose(b, false), 0);
            due(x.lose(7 - b, false), 1);
        }
    }

    static void loseAll() {
        says("A BRIDGE is LOST, or not");
        BridgePairs x = fanWith(ONE, 0);
        for (int b = 0; b <= 7; b++) x.lose(b, true);
        due(x.told(4), 255);
        due(x.of(0, 8), 0);
        x.lose(3, false);
        due(x.told(4), 255 - 8);
        due(x.of(0, 8), 8);
    }

    static void lostForAllButWidows() {
        says("if that is not LOST (a WIDOW also, if it is)");
        for (int kind = 0; kind <= 6; kind++) {
            BridgePairs x = roadWith(kind, 9);
            x.row(0, 0, 9);
            due(x.of(0, 8), 1);
            x.lose(0, true);
            due(x.of(0, 8), kind == WIDOW ? 1 : 0);
            due(x.cross(0, 0), kind == WIDOW ? 1 : STATE);
        }
    }

    static void lostAndBarredForAWidow() {
        says("and LEAVE is 1 or more");
        BridgePairs x = roadWith(WIDOW, 0);
        x.lose(0, true);
        city(x, "bar 6 p=0");
        due(leave(x, 0, 0), 1);
        due(x.of(0, 8), 1);
        city(x, "bar 7 p=0");
        due(leave(x, 0, 0), 0);
        due(x.of(0, 8), 0);
    }

    // ---- promise 9

    static void swapNone() {
        says("NONE");
        BridgePairs x = road();
        for (int no : new int[] {LEAST, -1, 4, 8, MOST}) {
            due(x.swap(no, 0), NONE);
            due(x.swap(0, no), NONE);
        }
        due(x.swap(4, 4), NONE);
    }

    static void swapOneThatIsBoth() {
        says("STATE: one is both");
        BridgePairs x = bridges(0, 1, 1, 2, 2, 3);
        for (int b = 0; b <= 2; b++) due(x.swap(b, b), STATE);
    }

    static void swapSisters() {
        says("STATE: they are SISTERS");
        BridgePairs x = road();
        due(x.swap(0, 1), STATE);
        due(x.swap(1, 0), STATE);
        due(x.swap(2, 3), STATE);
        x.swap(0, 2);
        due(x.swap(0, 3), STATE);
        due(x.swap(2, 1), STATE);
        due(x.swap(0, 1), 2);
    }

    static void swapOneWithoutSister() {
        says("STATE: one has none");
        BridgePairs x = bridges(0, 1, 1, 2, 2, 3);
        due(x.swap(0, 2), STATE);
        due(x.swap(2, 1), STATE);
        x.bridge(3, 4);
        due(x.swap(0, 2), 3);
    }

    static void swapGivesEachTheOthers() {
        says("Two BRIDGES change their SISTERS: the SISTER of the first then.");
        for (int a = 0; a <= 3; a++) {
            for (int b = 0; b <= 3; b++) {
                if (a / 2 == b / 2) continue;
                BridgePairs x = road();
                int sisterOfA = a ^ 1, sisterOfB = b ^ 1;
                due(x.swap(a, b), sisterOfB);
                due(x.span(a, 2), sisterOfB);
                due(x.span(sisterOfB, 2), a);
                due(x.span(b, 2), sisterOfA);
                due(x.span(sisterOfA, 2), b);
            }
        }
    }

    // ---- promise 10

    static void rowOfNoOne() {
        says("NONE: person");
        BridgePairs x = roadWith(TOLD, 0);
        for (int no : new int[] {LEAST, -1, 1, MOST}) due(x.row(no, 0, 0), NONE);
    }

    static void rowOfNoPart() {
        says("NONE: part");
        BridgePairs x = roadWith(TOLD, 0);
        for (int no : new int[] {LEAST, -1, 4, MOST}) due(x.row(0, no, 0), NONE);
    }

    static void rowOfNoNumber() {
        says("BAD");
        BridgePairs x = roadWith(TOLD, 0);
        for (int no : new int[] {LEAST, -1, 10, MOST}) due(x.row(0, 0, no), BAD);
        due(x.row(0, 0, 0), 0);
    }

    static void rowOfAnotherKind() {
        says("STATE: another KIND");
        for (int kind = 0; kind <= 5; kind++) due(roadWith(kind, 0).row(0, 0, 0), STATE);
        due(roadWith(TOLD, 0).row(0, 0, 0), 0);
    }

    static void rowByWhatIsNamedFirst() {
        says("NONE ahead of BAD, BAD ahead of STATE");
        BridgePairs x = roadWith(ONE, 0);
        due(x.row(1, 4, 10), NONE);
        due(x.row(0, 4, 10), NONE);
        due(x.row(0, 4, 0), NONE);
        due(x.row(0, 0, 10), BAD);
    }

    static void rowWhatItWas() {
        says("what it was; four numbers 0 .. 9; 0 at first");
        BridgePairs x = roadWith(TOLD, 0);
        for (int part = 0; part <= 3; part++) due(x.row(0, part, 9), 0);
        for (int part = 0; part <= 3; part++) due(x.row(0, part, part), 9);
        for (int part = 0; part <= 3; part++) due(x.row(0, part, 0), part);
    }

    static void rowByBridgeModulo4() {
        says("its ROW at BRIDGE modulo 4, less 4");
        BridgePairs x = fanWith(TOLD, 0);
        for (int part = 0; part <= 3; part++) x.row(0, part, 2 * part);
        for (int b = 0; b <= 7; b++) due(leave(x, 0, b), 3 + 2 * (b % 4) - 4);
    }

    static void rowOfEachTheirOwn() {
        says("The ROW of a TOLD one becomes n");
        BridgePairs x = roadWith(TOLD, 0);
        x.one(TOLD, 0, 0);
        x.row(0, 1, 7);
        due(x.row(1, 1, 4), 0);
        due(x.row(0, 1, 0), 7);
        due(x.row(0, 0, 0) + x.row(0, 2, 0) + x.row(0, 3, 0), 0);
    }

    // ---- promise 11

    static void feedNoSign() {
        says("BAD (0 .. 127)");
        BridgePairs x = new BridgePairs();
        for (int no : new int[] {LEAST, -1, 128, 256 + 'd', MOST}) due(x.feed(no), BAD);
        due(x.count(6), 0);
    }

    static void feedLeastAndMost() {
        says("A sign (0 .. 127) comes behind THE TEXT's: how many it has.");
        BridgePairs x = new BridgePairs();
        due(x.feed(0), 1);
        due(x.feed(127), 2);
        due(x.count(6), 2);
    }

    static void feedTheHundredAndFirst() {
        says("FULL (bytes, 100 at most)");
        BridgePairs x = new BridgePairs();
        for (int i = 1; i <= 100; i++) due(x.feed(';'), i);
        due(x.feed(';'), FULL);
        due(x.count(6), 100);
    }

    static void feedNoSignToAFullText() {
        says("BAD ahead of FULL");
        BridgePairs x = new BridgePairs();
        for (int i = 1; i <= 100; i++) x.feed(0);
        due(x.feed(128), BAD);
        due(x.feed(-1), BAD);
    }

    static void feedBehindACity() {
        says("THE TEXT, which is empty then");
        BridgePairs x = new BridgePairs();
        due(city(x, "dark 1"), 0);
        due(x.count(6), 0);
        due(x.feed('d'), 1);
    }

    // ---- promise 12: its answers

    static void cityOfNothing() {
        says("CLAUSES, 1 to 10");
        fault("", 0);
    }

    static void cityNumbers() {
        says("is a CITY, and holds: its number");
        BridgePairs x = new BridgePairs();
        for (int i = 0; i <= 5; i++) {
            due(city(x, "dark " + i), i);
            due(x.told(1), i);
            due(x.count(2), i + 1);
        }
    }

    static void seventhCity() {
        says("FULL: there are 6 (THE TEXT stays)");
        BridgePairs x = new BridgePairs();
        for (int i = 0; i <= 5; i++) city(x, "dark 3");
        due(city(x, "dark 4"), FULL);
        due(x.count(6), 6);
        due(x.told(1), 3);
        due(x.count(2), 6);
        due(x.city(), FULL);
        due(x.feed('4'), 7);
    }

    static void seventhCityWithAFault() {
        says("FULL ahead of -10 less the FAULT");
        BridgePairs x = new BridgePairs();
        for (int i = 0; i <= 5; i++) city(x, "dark 3");
        due(x.city(), FULL);
        due(city(x, "dork"), FULL);
        due(x.count(6), 4);
    }

    static void faultLeavesTheOneThatHeld() {
        says("-10 less the FAULT (the one that held holds)");
        BridgePairs x = roadWith(ONE, 0);
        city(x, "dark 7;grant 5 b=1");
        due(city(x, "grant 50 b=0;dark 8;dark"), -10 - 24);
        due(x.told(1), 7);
        due(leave(x, 0, 0), 3);
        due(leave(x, 0, 1), 8);
        due(x.count(2), 1);
    }

    static void faultWithNoneThatHeld() {
        says("without one there are no CLAUSES");
        BridgePairs x = roadWith(ONE, 0);
        due(city(x, "grant 50 b=0;dark 8;"), -10 - 20);
        due(x.told(1), 0);
        due(leave(x, 0, 0), 3);
        due(x.count(2), 0);
    }

    static void faultEmptiesTheText() {
        says("THE TEXT, which is empty then");
        BridgePairs x = new BridgePairs();
        due(city(x, "dork"), -11);
        due(x.count(6), 0);
        due(city(x, "dark 2"), 0);
    }

    static void faultTakesNoNumber() {
        says("its number");
        BridgePairs x = new BridgePairs();
        for (int i = 0; i < 9; i++) due(city(x, "x"), -10);
        due(city(x, "dark 1"), 0);
        due(city(x, "x"), -10);
        due(city(x, "dark 2"), 1);
    }

    static void faultLeavesNothingToTheNext() {
        says("THE TEXT, which is empty then, is a CITY");
        BridgePairs x = roadWith(ONE, 0);
        due(city(x, "grant 50 p=0;dark 8;bar 1 p=0&"), -10 - 30);
        due(city(x, "grant 1 b=0"), 0);
        due(x.told(1), 0);
        due(leave(x, 0, 0), 4);
        due(leave(x, 0, 1), 3);
    }

    static void newestCityHolds() {
        says("The newest CITY holds");
        BridgePairs x = roadWith(ONE, 0);
        city(x, "grant 5 b=0;dark 5");
        due(leave(x, 0, 0), 8);
        city(x, "bar 1 b=1");
        due(leave(x, 0, 0), 3);
        due(leave(x, 0, 1), 2);
        due(x.told(1), 0);
    }

    // ---- promise 12: the grammar and the fault

    static void tenClauses() {
        says("CLAUSES, 1 to 10, with ; between");
        String nine = "bar 1 p=0;".repeat(9);
        stands("bar 1 p=0");
        stands(nine + "bar 1 p=0");
        BridgePairs x = roadWith(ONE, 0);
        city(x, nine + "bar 1 p=0");
        due(leave(x, 0, 0), 3 - 10);
    }

    static void elevenClauses() {
        says("CLAUSES, 1 to 10");
        fault("bar 1 p=0;".repeat(10), 99);
        fault("dark 1;".repeat(10) + "dark 1", 69);
        fault("dark 1;".repeat(9) + "dark 1;;", 69);
    }

    static void signsBetweenClauses() {
        says("with ; between");
        fault(";dark 1", 0);
        fault("dark 1;;dark 1", 7);
        fault("dark 1,dark 1", 6);
        fault("dark 1 ;dark 1", 6);
        fault("dark 1; dark 1", 7);
        endsEarly("dark 1;");
    }

    static void words() {
        says("grant n E; bar n E; dark n");
        stands("grant 1 p=0");
        stands("bar 1 p=0");
        stands("dark 1");
        for (String word : new String[] {"grant ", "bar ", "dark "}) {
            for (int i = 0; i < word.length(); i++) {
                endsEarly(word.substring(0, i));
                fault(word.substring(0, i) + "?" + word.substring(i + 1) + "1", i);
            }
            endsEarly(word);
        }
        fault("Grant 1 p=0", 0);
        fault("gar 1 p=0", 1);
        fault("drant 1 p=0", 1);
        fault("grants 1 p=0", 5);
    }

    static void blanks() {
        says("one blank ahead of each part behind the word");
        fault(" dark 1", 0);
        fault("dark1", 4);
        fault("dark  1", 5);
        fault("dark 1 ", 6);
        fault("grant1 p=0", 5);
        fault("grant  1 p=0", 6);
        fault("grant 1p=0", 7);
        fault("grant 1  p=0", 8);
        fault("grant 1 p =0", 9);
        fault("grant 1 p= 0", 10);
        fault("grant 1 p=0 ", 11);
        fault("grant 1 p=0 &p=0", 11);
        fault("grant 1 p=0& p=0", 12);
        fault("bar 1\tp=0", 5);
    }

    static void digitsOfN() {
        says("n 1 or 2 digits");
        endsEarly("dark ");
        stands("dark 0");
        stands("dark 99");
        stands("dark 00");
        fault("dark 100", 7);
        fault("dark 001", 7);
        fault("dark -1", 5);
        fault("dark x", 5);
        endsEarly("grant 1");
        endsEarly("grant 12");
        fault("grant 123 p=0", 8);
        fault("bar 100 p=0", 6);
        fault("bar  p=0", 4);
        fault("bar p=0", 4);
        fault("dark :", 5);
        fault("dark /", 5);
        fault("dark 1:", 6);
        fault("dark 1/", 6);
    }

    static void darkHasNoE() {
        says("dark n");
        fault("dark 1 p=0", 6);
        fault("dark 12 p=0", 7);
    }

    static void grantAndBarNeedAnE() {
        says("grant n E; bar n E");
        endsEarly("grant 1 ");
        endsEarly("bar 12 ");
        fault("grant 1;dark 1", 7);
        fault("grant 1 ;dark 1", 8);
    }

    static void letters() {
        says("a TEST: a letter");
        for (int sign = 0; sign <= 127; sign++) {
            String text = "bar 1 " + (char) sign + "=1";
            if ("pkvbnh".indexOf(sign) >= 0) stands(text);
            else if (sign == '!' || sign == '(') fault(text, 7);
            else fault(text, 6);
        }
        fault("bar 1 pk=1", 7);
    }

    static void relations() {
        says("< or = or >");
        for (int sign = 0; sign <= 127; sign++) {
            String text = "bar 1 p" + (char) sign + "1";
            if ("<=>".indexOf(sign) >= 0) stands(text);
            else fault(text, 7);
        }
        fault("bar 1 p<=1", 8);
        endsEarly("bar 1 p");
    }

    static void digitsOfATest() {
        says("a number (1 or 2 digits)");
        endsEarly("bar 1 p=");
        stands("bar 1 p=1");
        stands("bar 1 p=12");
        fault("bar 1 p=123", 10);
        fault("bar 1 p=x", 8);
        fault("bar 1 p=;", 8);
        fault("bar 1 p=-1", 8);
        for (int sign = 0; sign <= 127; sign++) {
            String text = "bar 1 p=" + (char) sign;
            if (sign >= '0' && sign <= '9') stands(text);
            else fault(text, 8);
        }
    }

    static void signsBehindATest() {
        says("The FAULT: the place of the first byte with which none begins so");
        for (int sign = 0; sign <= 127; sign++) {
            String text = "bar 1 p=12" + (char) sign;
            if (sign == '&' || sign == '|' || sign == ';') endsEarly(text);
            else fault(text, 10);
        }
    }

    static void joins() {
        says("E: T or T|E. T: F or F&T.");
        stands("bar 1 p=1|p=2|p=3&p=4&p=5|p=6");
        fault("bar 1 &p=1", 6);
        fault("bar 1 |p=1", 6);
        fault("bar 1 p=1&&p=2", 10);
        fault("bar 1 p=1||p=2", 10);
        fault("bar 1 p=1&|p=2", 10);
        fault("bar 1 p=1|&p=2", 10);
        endsEarly("bar 1 p=1&");
        endsEarly("bar 1 p=1|");
        fault("bar 1 p=1&;dark 1", 10);
        fault("bar 1 p=1|;dark 1", 10);
    }

    static void parentheses() {
        says("F: !F, (E), or a TEST");
        stands("bar 1 (p=1)");
        stands("bar 1 (p=1|p=2)&(p=3)");
        stands("bar 1 !(p=1)");
        stands("bar 1 (!p=1)");
        endsEarly("bar 1 (");
        endsEarly("bar 1 (p=1");
        endsEarly("bar 1 (p=1&");
        endsEarly("bar 1 ((p=1)");
        fault("bar 1 ()", 7);
        fault("bar 1 p=1)", 9);
        fault("bar 1 (p=1))", 11);
        fault("bar 1 (p=1;dark 1", 10);
        fault("bar 1 (p=1)(p=2)", 11);
        fault("bar 1 (p=1)p=2", 11);
        fault("bar 1 )p=1(", 6);
    }

    static void denials() {
        says("F: !F");
        stands("bar 1 !p=1");
        stands("bar 1 !!p=1&!p=2");
        endsEarly("bar 1 !");
        fault("bar 1 p=1!", 9);
        fault("bar 1 p!=1", 7);
        fault("bar 1 !&p=1", 7);
        fault("bar 1 !)", 7);
        fault("bar 1 !1", 7);
    }

    static void withinFourOthers() {
        says("A ( or ! within 4 others is none.");
        stands("bar 1 ((((p=1))))");
        stands("bar 1 !!!!p=1");
        stands("bar 1 !(!(p=1))");
        stands("bar 1 (!(!p=1))");
        fault("bar 1 (((((p=1)))))", 10);
        fault("bar 1 !!!!!p=1", 10);
        fault("bar 1 !(!(!p=1))", 10);
        fault("bar 1 (!(!(p=1)))", 10);
        fault("bar 1 ((((!p=1))))", 10);
        fault("bar 1 !!!!(p=1)", 10);
        fault("bar 1 ((((p=1&!p=2))))", 14);
        fault("bar 1 ((((p=1|(p=2)))))", 14);
    }

    static void besideFourOthers() {
        says("A ( or ! within 4 others is none.");
        stands("bar 1 ((((p=1))))&!p=2|((((p=3))))");
        stands("bar 1 !!!!p=1&!!!!p=2|!!!!p=3");
        stands("bar 1 (((!p=1&!p=2|(p=3)&(p=4))))");
        stands("bar 1 ((((p=1))));bar 1 ((((p=1))))");
        fault("bar 1 (((!p=1&!!p=2)))", 15);
    }

    static void everyByteCounts() {
        says("The FAULT: the place of the first byte with which none begins so (the end of THE TEXT, if it ends too early)");
        String text = "grant 12 !(p=1|k<2)&v>34;dark 56;bar 7 b=8&(n=9)";
        stands(text);
        String whole = " 19 23 24 31 32 42 48 ";
        for (int i = 0; i < text.length(); i++) {
            fault(text.substring(0, i) + "~" + text.substring(i + 1), i);
            String begin = text.substring(0, i);
            if (whole.contains(" " + i + " ")) stands(begin);
            else endsEarly(begin);
        }
    }

    static void faultIsTheFirst() {
        says("the place of the first byte");
        fault("dark x;dark y", 5);
        fault("bar 1 p?1&q=1", 7);
    }

    static void textOfAHundred() {
        says("THE TEXT (bytes, 100 at most)");
        stands("grant 01 p=0" + "&p=0".repeat(22));
        fault("grant 1 p=0" + "&p=0".repeat(22) + "&", 100);
        fault("grant 01 p=0" + "&p=0".repeat(21) + "&p=x", 99);
        fault("dark 1;".repeat(9) + "dark 1" + "?".repeat(31), 69);
    }

    // ---- dark, sums, tests

    static void darkOfTheLast() {
        says("DARK (0 without): the last one's n");
        BridgePairs x = new BridgePairs();
        due(x.told(1), 0);
        city(x, "grant 5 p=0");
        due(x.told(1), 0);
        city(x, "dark 4;dark 9;grant 5 p=0;dark 2;bar 1 p=0");
        due(x.told(1), 2);
        city(x, "dark 99;dark 0");
        due(x.told(1), 0);
        city(x, "dark 0;dark 99");
        due(x.told(1), 99);
    }

    static void sumWithout() {
        says("SUM: 3");
        BridgePairs x = roadWith(ONE, 0);
        due(leave(x, 0, 0), 3);
        city(x, "grant 7 b>9;bar 2 b>9");
        due(leave(x, 0, 0), 3);
    }

    static void sumOfAll() {
        says("the n of all grant whose E holds, less those of all bar, together");
        BridgePairs x = roadWith(ONE, 0);
        city(x, "grant 1 b=0;grant 20 b<2;bar 4 b=1;bar 5 b>0;grant 99 b=9");
        due(leave(x, 0, 0), 24);
        due(leave(x, 0, 1), 3 + 20 - 9);
        due(leave(x, 0, 2), -2);
        city(x, "grant 0 b=0;bar 00 b=1");
        due(leave(x, 0, 0), 3);
        due(leave(x, 0, 1), 3);
    }

    static void sumBelowZero() {
        says("(may be below 0)");
        BridgePairs x = roadWith(ONE, 0);
        city(x, "bar 99 p=0;".repeat(8) + "bar 99 p=0");
        due(leave(x, 0, 0), 3 - 891);
        city(x, "bar 4 p=0");
        due(leave(x, 0, 0), -1);
    }

    static void sumAtMost() {
        says("the n of all grant whose E holds");
        BridgePairs x = roadWith(LOVER, 9);
        city(x, "grant 99 p=0;".repeat(6) + "grant 99 p=0");
        due(leave(x, 0, 0), 3 + 693 + 9);
    }

    static void relationsAtTheEdge() {
        says("a letter, < or = or >, a number");
        BridgePairs x = fanWith(ONE, 0);
        city(x, "grant 1 b<3;grant 10 b=3;grant 50 b>3");
        for (int b = 0; b <= 7; b++) due(leave(x, 0, b), 3 + (b < 3 ? 1 : b == 3 ? 10 : 50));
        city(x, "grant 1 b<0;grant 10 b=00;grant 50 b>0");
        for (int b = 0; b <= 7; b++) due(leave(x, 0, b), 3 + (b == 0 ? 10 : 50));
        city(x, "grant 1 b<99;grant 10 b=07;grant 50 b>99");
        for (int b = 0; b <= 7; b++) due(leave(x, 0, b), b == 7 ? 14 : 4);
    }

    static void letterP() {
        says("p the number of the one");
        BridgePairs x = road();
        for (int p = 0; p <= 5; p++) x.one(0, 9, 0);
        city(x, "grant 10 p>4;grant 20 p=2;grant 1 p<1");
        int[] due = {4, 3, 23, 3, 3, 13};
        for (int p = 0; p <= 5; p++) due(leave(x, p, 3), due[p]);
    }

    static void letterK() {
        says("k its KIND");
        for (int kind : new int[] {ONE, LOVER, DEBTOR}) {
            BridgePairs x = roadWith(kind, 0);
            city(x, "grant 10 k=0;grant 20 k=1;grant 40 k=3");
            due(leave(x, 0, 0), 3 + (kind == ONE ? 10 : kind == LOVER ? 20 : 40));
        }
        BridgePairs told = roadWith(TOLD, 0);
        city(told, "grant 10 k=6;bar 50 k<6");
        due(leave(told, 0, 0), 3 + 10 - 4);
    }

    static void letterV() {
        says("v its v");
        for (int v = 0; v <= 9; v++) {
            BridgePairs x = roadWith(ONE, v);
            city(x, "grant 10 v=" + v + ";bar 50 v<" + v + ";bar 50 v>" + v);
            due(leave(x, 0, 0), 13);
        }
    }

    static void letterN() {
        says("n how many BRIDGES are HALF");
        BridgePairs x = fanWith(ONE, 0);
        x.one(ONE, 0, 0);
        city(x, "grant 10 n=0;grant 20 n=1;grant 40 n=2;grant 80 n>2");
        int[] due = {13, 23, 43, 83, 83};
        for (int n = 0; n <= 4; n++) {
            due(leave(x, 0, 7), due[n]);
            due(leave(x, 1, 7), 13);
            if (n < 4) x.cross(0, 2 * n);
        }
    }

    static void letterH() {
        says("h HOUR modulo 10");
        BridgePairs x = roadWith(ONE, 0);
        city(x, "grant 10 h=9;grant 20 h=0;grant 40 h>9");
        due(leave(x, 0, 0), 23);
        x.pass(9);
        due(leave(x, 0, 0), 13);
        x.pass(1);
        due(x.told(0), 10);
        due(leave(x, 0, 0), 23);
        x.pass(1);
        due(leave(x, 0, 0), 3);
        x.pass(9);
        due(leave(x, 0, 0), 23);
    }

    static void andBindsAheadOfOr() {
        says("E: T or T|E. T: F or F&T.");
        holds("p=0|p=1&p=2", true);
        holds("p=2&p=1|p=0", true);
        holds("p=0|p=0&p=2", true);
        holds("(p=0|p=1)&p=2", false);
        holds("p=2&(p=1|p=0)", false);
        holds("p=0&p=0&p=1", false);
        holds("p=1|p=2|p=0", true);
        holds("p=1|p=2|p=3", false);
        holds("p=1&p=0|p=0&p=0|p=1", true);
        holds("p=1|p=0&p=1|p=0&p=2", false);
        holds("p=0&(p=0)", true);
        holds("p=0&(p=1|p=0)", true);
        holds("(p=0)&(p=0)&(p=0)", true);
        holds("(p=1)|(p=0)", true);
        holds("p=0&(p=0&(p=0&(p=0&p=0)))", true);
        holds("p=1|(p=1|(p=1|(p=1|p=0)))", true);
    }

    static void theLeastTest() {
        says("a letter, < or = or >, a number");
        holds("p<0", false);
        holds("p=0&p<0", false);
        holds("p<0|p=0", true);
        holds("p=0|p<0", true);
        holds("p=0&!p<0", true);
        holds("h>99", false);
        holds("!h>99&p=0", true);
    }

    static void notBindsFirst() {
        says("F: !F");
        holds("!p=0", false);
        holds("!p=1", true);
        holds("!!p=0", true);
        holds("!!!p=0", false);
        holds("!!!!p=0", true);
        holds("!p=0&p=1", false);
        holds("!p=1&p=1", false);
        holds("!(p=1&p=0)", true);
        holds("!p=0|p=0", true);
        holds("!(p=0|p=1)", false);
        holds("!(!(p=0&p=0)|p=1)", true);
    }

    /** Whether an E holds for one with the number 0. */
    private static void holds(String e, boolean is) {
        BridgePairs x = roadWith(ONE, 0);
        due(city(x, "grant 9 " + e), 0);
        due(leave(x, 0, 0), is ? 12 : 3);
    }

    // ---- leave

    static void leaveOfOne() {
        says("ONE: SUM.");
        for (int b = 0; b <= 3; b++) due(leave(roadWith(ONE, 9), 0, b), 3);
    }

    static void leaveOfLover() {
        says("LOVER: SUM and v; 5 less, if the number of the BRIDGE is odd.");
        for (int v = 0; v <= 9; v++) {
            BridgePairs x = fanWith(LOVER, v);
            for (int b = 0; b <= 7; b++) due(leave(x, 0, b), b % 2 == 0 ? 3 + v : v - 2);
        }
    }

    static void leaveOfTwin() {
        says("TWIN: the half (cut toward 0) of SUM.");
        BridgePairs x = roadWith(TWIN, 9);
        due(leave(x, 0, 1), 1);
        city(x, "bar 3 b=0;bar 4 b=1;bar 6 b=2;bar 1 b=3");
        int[] due = {0, 0, -1, 1};
        for (int b = 0; b <= 3; b++) due(leave(x, 0, b), due[b]);
        city(x, "bar 2 b=0;bar 5 b=1;bar 7 b=2;grant 2 b=3");
        int[] more = {0, -1, -2, 2};
        for (int b = 0; b <= 3; b++) due(leave(x, 0, b), more[b]);
    }

    static void leaveOfDebtor() {
        says("DEBTOR: SUM, less twice how many BRIDGES are HALF.");
        BridgePairs x = fanWith(DEBTOR, 9);
        due(leave(x, 0, 7), 3);
        due(x.cross(0, 0), 1);
        due(leave(x, 0, 7), 1);
        due(x.cross(0, 2), 0);
        due(leave(x, 0, 7), -1);
        due(x.of(0, 8), 0);
        due(x.cross(0, 4), STATE);
    }

    static void leaveOfEnvoy() {
        says("ENVOY: as LOVER; 0, if more than two are HALF.");
        BridgePairs x = fanWith(ENVOY, 7);
        for (int n = 0; n <= 3; n++) {
            due(leave(x, 0, 0), n > 2 ? 0 : 10);
            due(leave(x, 0, 1), n > 2 ? 0 : 5);
            due(x.cross(0, 2 * n), n > 2 ? STATE : n % 2 == 0 ? 1 : 0);
        }
        BridgePairs below = fanWith(ENVOY, 0);
        for (int b = 0; b <= 4; b += 2) below.cross(0, b);
        city(below, "bar 50 p=0");
        due(leave(below, 0, 0), 0);
    }

    static void leaveOfWidow() {
        says("WIDOW: as TWIN, and 2.");
        BridgePairs x = roadWith(WIDOW, 9);
        due(leave(x, 0, 0), 3);
        city(x, "bar 4 b=0;bar 6 b=1;bar 8 b=2;grant 3 b=3");
        int[] due = {2, 1, 0, 5};
        for (int b = 0; b <= 3; b++) due(leave(x, 0, b), due[b]);
    }

    static void leaveOfTold() {
        says("TOLD: as DEBTOR, and its ROW at BRIDGE modulo 4, less 4.");
        BridgePairs x = fanWith(TOLD, 9);
        due(leave(x, 0, 0), -1);
        due(x.of(0, 8), 0);
        x.row(0, 0, 9);
        x.row(0, 3, 4);
        due(leave(x, 0, 0), 8);
        due(leave(x, 0, 7), 3);
        x.cross(0, 0);
        due(leave(x, 0, 4), 6);
        due(leave(x, 0, 7), 1);
        x.cross(0, 4);
        due(leave(x, 0, 4), 4);
        due(leave(x, 0, 7), -1);
        due(x.of(0, 8), 17);
    }

    static void leaveOfOneOrMore() {
        says("and LEAVE is 1 or more");
        BridgePairs x = fanWith(ONE, 0);
        city(x, "bar 2 b=0;bar 3 b=1;bar 4 b=2");
        due(leave(x, 0, 0), 1);
        due(leave(x, 0, 1), 0);
        due(leave(x, 0, 2), -1);
        due(x.of(0, 8), 255 - 6);
    }

    // ---- promise 13

    static void toldOfNoWhat() {
        says("NONE.");
        for (int no : new int[] {LEAST, -1, 5, MOST}) due(road().told(no), NONE);
    }

    static void toldHour() {
        says("0 HOUR (0 at first)");
        BridgePairs x = new BridgePairs();
        due(x.told(0), 0);
        x.pass(12);
        x.pass(1);
        due(x.told(0), 13);
    }

    static void toldWhoTrulyIsThere() {
        says("2 who TRULY is where its ERRAND is (bits): AT it and none is HALF");
        BridgePairs x = fanWith(ONE, 0);
        for (int p = 1; p <= 5; p++) x.one(0, 0, p % 2);
        due(x.told(2), 0);
        for (int p = 0; p <= 5; p++) x.errand(p, 1);
        due(x.told(2), 2 | 8 | 32);
        x.cross(0, 0);
        due(x.of(0, 2), 1);
        due(x.told(2), 2 | 8 | 32);
        x.errand(5, -1);
        due(x.told(2), 2 | 8);
        x.errand(4, 0);
        due(x.told(2), 2 | 8 | 16);
    }

    static void toldHalfOfAll() {
        says("3 how many BRIDGES are HALF, of all, together");
        BridgePairs x = fanWith(ONE, 0);
        x.one(0, 0, 0);
        due(x.told(3), 0);
        x.cross(0, 0);
        x.cross(0, 2);
        x.cross(1, 0);
        due(x.told(3), 3);
        x.cross(1, 1);
        due(x.told(3), 2);
    }

    static void toldLost() {
        says("4 which BRIDGES are LOST (bits)");
        BridgePairs x = fanWith(ONE, 0);
        x.lose(0, true);
        x.lose(7, true);
        due(x.told(4), 129);
    }
}
