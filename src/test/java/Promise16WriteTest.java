/** Promise 16, write(): what it needs, what it leaves out, and the room. */
public final class Promise16WriteTest {
    public static void main(String[] args) throws ReflectiveOperationException {
        Check.runAll(Promise16WriteTest.class);
    }

    private static void written(String what, Use plan, Bytes due) {
        Counted x = new Counted();
        plan.on(x);
        Check.same(what + ": bytes put", x.write(), due.size());
        Check.same(what + ": at(-1)", x.at(-1), due.size());
        int[] bytes = due.toArray();
        for (int k = 0; k < bytes.length; k++) {
            Check.same(what + ": at(" + k + ")", x.at(k), bytes[k]);
        }
    }

    private static Bytes size(int components) {
        return new Bytes().start(1, components);
    }

    /** Components of one level. */
    private static void ofOneLevel(Counted x, int components) {
        x.picture(0, 0, 4, 4);
        for (int c = 0; c < components; c++) {
            x.component(8, false, 1, 1);
            x.coding(c, 1, 6, 6, 0, true);
        }
    }

    private static Bytes sizeAndCoding(int components) {
        return size(components).segment(82, 0, 0, 0, 1, 0, 1, 4, 4, 0, 1);
    }

    private static Bytes allOfOneLevel(int components) {
        return sizeAndCoding(components).segment(92, 64, 0, 0, 0, 0);
    }

    static void noPicture() {
        Twin.state("nothing", Counted::write, Made::nothing);
        Twin.state("a component", Counted::write, x -> x.component(8, false, 1, 1));
        Twin.state("scanned", Counted::write, x -> {
            Made.scanned(x);
            x.plan();
            x.component(8, false, 1, 1);
        });
    }

    static void noComponent() {
        Twin.state("a picture", Counted::write, x -> x.picture(0, 0, 4, 4));
        Twin.state("scanned", Counted::write, x -> {
            Made.scanned(x);
            x.plan();
            x.picture(0, 0, 4, 4);
        });
    }

    static void pictureAndComponentAreEnough() {
        written("small", Made::small, size(1).coding().steps());
    }

    static void behindWhatIsThere() {
        Counted x = Made.with(Made::small);
        x.put(7);
        Check.same("once", x.write(), Made.SMALL_BYTES);
        Check.same("twice", x.write(), Made.SMALL_BYTES);
        Check.same("at(-1)", x.at(-1), 1 + 2 * Made.SMALL_BYTES);
        Check.same("at(0)", x.at(0), 7);
        for (int k = 0; k < Made.SMALL_BYTES; k++) {
            Check.same("alike", x.at(1 + k), x.at(1 + Made.SMALL_BYTES + k));
        }
    }

    static void theLeastAndGreatestNumbersOfSize() {
        Bytes due = new Bytes().mark(79).mark(81).u2(44).u2(0).u4(0x7fffffff).u4(0x7fffffff)
                .u4(0x7ffffffe).u4(0x7ffffffe).u4(0x7fffffff).u4(1).u4(0).u4(0x7ffffffe)
                .u2(2).u1(0, 1, 255).u1(165, 255, 1).coding().steps();
        written("far", x -> {
            x.picture(0x7ffffffe, 0x7ffffffe, 0x7fffffff, 0x7fffffff);
            x.tiles(0, 0x7ffffffe, 0x7fffffff, 1);
            x.component(1, false, 1, 255);
            x.component(38, true, 255, 1);
        }, due);
    }

    /** Each number of the picture and the tiles at its own place, over all four bytes. */
    static void theNumbersOfSizeInTheirOrder() {
        Bytes due = new Bytes().mark(79).mark(81).u2(41).u2(0).u4(0x51627384).u4(0x61728394)
                .u4(0x11223344).u4(0x21324354).u4(0x51525354).u4(0x61626364).u4(0x01020304)
                .u4(0x05060708).u2(1).u1(139, 3, 4).coding().steps();
        written("eight numbers", x -> {
            x.picture(0x11223344, 0x21324354, 0x51627384, 0x61728394);
            x.tiles(0x01020304, 0x05060708, 0x51525354, 0x61626364);
            x.component(12, true, 3, 4);
        }, due);
    }

    static void generalNumbers() {
        written("most", x -> {
            Made.small(x);
            x.general(4, 255, true, true, true);
        }, size(1).segment(82, 6, 4, 0, 255, 1, 0, 4, 4, 0, 1).steps());
        written("ahead", x -> {
            Made.small(x);
            x.general(0, 1, false, true, false);
        }, size(1).segment(82, 2, 0, 0, 1, 0, 0, 4, 4, 0, 1).steps());
        written("behind", x -> {
            Made.small(x);
            x.general(0, 1, false, false, true);
        }, size(1).segment(82, 4, 0, 0, 1, 0, 0, 4, 4, 0, 1).steps());
    }

    static void blocksAndStyleAtTheirEnds() {
        written("wide", x -> {
            Made.small(x);
            x.coding(0, 0, 10, 2, 63, false);
        }, size(1).segment(82, 0, 0, 0, 1, 0, 0, 8, 0, 63, 0).steps());
        written("high", x -> {
            Made.small(x);
            x.coding(0, 0, 2, 10, 1, true);
        }, size(1).segment(82, 0, 0, 0, 1, 0, 0, 0, 8, 1, 1).steps());
    }

    /** "precincts told if an exponent of its levels 0 .. N is not 15" */
    static void precinctsOfTheLastLevelAndOfTheNext() {
        int[][] told = {{0, 14, 15, 254, 255}, {0, 15, 14, 239, 255}, {1, 14, 15, 255, 254},
            {1, 15, 14, 255, 239}, {0, 0, 0, 0, 255}, {1, 1, 1, 255, 17}};
        for (int[] t : told) {
            written("told", x -> {
                ofOneLevel(x, 1);
                x.precincts(0, t[0], t[1], t[2]);
            }, size(1).segment(82, 1, 0, 0, 1, 0, 1, 4, 4, 0, 1, t[3], t[4])
                    .segment(92, 64, 0, 0, 0, 0));
        }
        written("above its levels", x -> {
            ofOneLevel(x, 1);
            x.precincts(0, 2, 14, 14);
            x.precincts(0, 32, 1, 1);
        }, allOfOneLevel(1));
        written("15 again", x -> {
            ofOneLevel(x, 1);
            x.precincts(0, 1, 1, 1);
            x.precincts(0, 1, 15, 15);
        }, allOfOneLevel(1));
    }

    static void allPrecinctsOf32Levels() {
        Bytes body = new Bytes().u1(1, 0, 0, 1, 0, 32, 4, 4, 0, 1);
        Bytes values = new Bytes().u1(65, 0, 0);
        for (int r = 0; r <= 32; r++) {
            body.u1(r == 32 ? 33 : 255);
        }
        written("32", x -> {
            Made.small(x);
            x.coding(0, 32, 6, 6, 0, true);
            x.precincts(0, 32, 1, 2);
            x.steps(0, 1, 2, 0);
        }, size(1).segment(82, body.toArray()).segment(92, values.toArray()));
    }

    /** "a value of kind 0 by its 256th part, rounded down" */
    static void valuesOfKindZero() {
        int[][] parts = {{0, 0}, {1, 0}, {255, 0}, {256, 1}, {511, 1}, {512, 2}, {65279, 254},
            {65280, 255}, {65535, 255}};
        for (int[] p : parts) {
            written("value " + p[0], x -> {
                Made.small(x);
                x.step(0, 0, p[0]);
            }, size(1).coding().segment(92, 64, p[1]));
        }
    }

    static void valuesOfKindOneAndTwo() {
        written("kind 1", x -> {
            ofOneLevel(x, 1);
            x.steps(0, 1, 7, 0);
            x.step(0, 0, 65535);
            x.step(0, 1, 9);
        }, sizeAndCoding(1).segment(92, 225, 255, 255));
        written("kind 2", x -> {
            ofOneLevel(x, 1);
            x.steps(0, 2, 0, 0);
            x.step(0, 0, 255);
            x.step(0, 3, 256);
            x.step(0, 4, 9);
        }, sizeAndCoding(1).segment(92, 2, 0, 255, 0, 0, 0, 0, 1, 0));
    }

    static void howManyValues() {
        int[] levels = {0, 1, 2, 31, 32};
        for (int n : levels) {
            for (int kind = 0; kind <= 2; kind++) {
                Counted x = Made.with(Made::small);
                x.coding(0, n, 6, 6, 0, true);
                x.steps(0, kind, 2, 0);
                int values = kind == 1 ? 2 : (3 * n + 1) * (kind == 0 ? 1 : 2);
                Check.same("kind " + kind + ", levels " + n, x.write(), 45 + 14 + 5 + values);
                Check.same("length", x.at(45 + 14 + 3), 3 + values);
            }
        }
    }

    /** "ITS CODING if its coding (exponents of its levels 0 .. N) is another one" */
    static void itsCodingIfOneNumberIsAnother() {
        int[][] others = {{0, 6, 6, 0, 1}, {2, 6, 6, 0, 1}, {1, 5, 6, 0, 1}, {1, 6, 5, 0, 1},
            {1, 6, 6, 1, 1}, {1, 6, 6, 0, 0}};
        for (int[] o : others) {
            Bytes due = allOfOneLevel(2).segment(83, 1, 0, o[0], o[1] - 2, o[2] - 2, o[3], o[4]);
            if (o[0] == 0) {
                due.segment(93, 1, 64, 0);
            }
            if (o[0] == 2) {
                due.segment(93, 1, 64, 0, 0, 0, 0, 0, 0, 0);
            }
            written("another", x -> {
                ofOneLevel(x, 2);
                x.coding(1, o[0], o[1], o[2], o[3], o[4] == 1);
            }, due);
        }
        written("the same", x -> ofOneLevel(x, 2), allOfOneLevel(2));
    }

    static void itsCodingIfAnExponentOfItsLevelsIsAnother() {
        int[][] told = {{0, 14, 15, 254, 255}, {0, 15, 14, 239, 255}, {1, 14, 15, 255, 254},
            {1, 15, 14, 255, 239}};
        for (int[] t : told) {
            written("of component 1", x -> {
                ofOneLevel(x, 2);
                x.precincts(1, t[0], t[1], t[2]);
            }, allOfOneLevel(2).segment(83, 1, 1, 1, 4, 4, 0, 1, t[3], t[4]));
            written("of component 0", x -> {
                ofOneLevel(x, 2);
                x.precincts(0, t[0], t[1], t[2]);
            }, size(2).segment(82, 1, 0, 0, 1, 0, 1, 4, 4, 0, 1, t[3], t[4])
                    .segment(92, 64, 0, 0, 0, 0).segment(83, 1, 0, 1, 4, 4, 0, 1));
        }
        written("above its levels", x -> {
            ofOneLevel(x, 2);
            x.precincts(0, 2, 3, 3);
            x.precincts(1, 2, 4, 4);
        }, allOfOneLevel(2));
    }

    /** "ITS STEPS if its steps (as they are written) are" */
    static void itsStepsIfTheyAreWrittenOtherwise() {
        written("the last value", x -> {
            ofOneLevel(x, 2);
            x.step(1, 3, 256);
        }, allOfOneLevel(2).segment(93, 1, 64, 0, 0, 0, 1));
        written("the first value", x -> {
            ofOneLevel(x, 2);
            x.step(1, 0, 65535);
        }, allOfOneLevel(2).segment(93, 1, 64, 255, 0, 0, 0));
        written("the guard", x -> {
            ofOneLevel(x, 2);
            x.steps(1, 0, 3, 0);
        }, allOfOneLevel(2).segment(93, 1, 96, 0, 0, 0, 0));
        written("kind 1", x -> {
            ofOneLevel(x, 2);
            x.steps(1, 1, 2, 0);
        }, allOfOneLevel(2).segment(93, 1, 65, 0, 0));
        written("kind 2", x -> {
            ofOneLevel(x, 2);
            x.steps(1, 2, 2, 0);
        }, allOfOneLevel(2).segment(93, 1, 66, 0, 0, 0, 0, 0, 0, 0, 0));
    }

    static void noStepsIfTheyAreWrittenAlike() {
        written("not written", x -> {
            ofOneLevel(x, 2);
            x.step(1, 4, 65535);
        }, allOfOneLevel(2));
        written("rounded alike", x -> {
            ofOneLevel(x, 2);
            x.step(0, 3, 512);
            x.step(1, 3, 767);
        }, sizeAndCoding(2).segment(92, 64, 0, 0, 0, 2));
        written("rounded otherwise", x -> {
            ofOneLevel(x, 2);
            x.step(0, 3, 512);
            x.step(1, 3, 768);
        }, sizeAndCoding(2).segment(92, 64, 0, 0, 0, 2).segment(93, 1, 64, 0, 0, 0, 3));
        written("one of kind 1, of other levels", x -> {
            ofOneLevel(x, 2);
            x.coding(1, 0, 6, 6, 0, true);
            x.steps(0, 1, 2, 0);
            x.steps(1, 1, 2, 0);
            x.step(1, 1, 5);
        }, sizeAndCoding(2).segment(92, 65, 0, 0).segment(83, 1, 0, 0, 4, 4, 0, 1));
        written("kind 2 by one", x -> {
            ofOneLevel(x, 2);
            x.steps(0, 2, 2, 0);
            x.steps(1, 2, 2, 0);
            x.step(1, 0, 1);
        }, sizeAndCoding(2).segment(92, 66, 0, 0, 0, 0, 0, 0, 0, 0)
                .segment(93, 1, 66, 0, 1, 0, 0, 0, 0, 0, 0));
    }

    /** All ITS CODING first, then all ITS STEPS, then the shifts, then the changes. */
    static void inTurn() {
        written("in turn", x -> {
            ofOneLevel(x, 3);
            for (int c = 1; c < 3; c++) {
                x.coding(c, 1, 6, 6, c, true);
                x.steps(c, 1, c, c);
            }
            x.change(0, 0, 1, 1, 1, 0);
        }, allOfOneLevel(3).segment(83, 1, 0, 1, 4, 4, 1, 1).segment(83, 2, 0, 1, 4, 4, 2, 1)
                .segment(93, 1, 33, 0, 0).segment(93, 2, 65, 0, 0)
                .segment(94, 1, 0, 1).segment(94, 2, 0, 2).segment(95, 0, 0, 0, 1, 1, 1, 0));
    }

    static void shiftsThatAreNotZero() {
        written("0", x -> {
            ofOneLevel(x, 2);
            x.steps(0, 0, 2, 5);
            x.steps(0, 0, 2, 0);
        }, allOfOneLevel(2));
        written("1", x -> {
            ofOneLevel(x, 2);
            x.steps(0, 0, 2, 1);
        }, allOfOneLevel(2).segment(94, 0, 0, 1));
        written("37 of the last", x -> {
            ofOneLevel(x, 2);
            x.steps(1, 0, 2, 37);
        }, allOfOneLevel(2).segment(94, 1, 0, 37));
    }

    static void changesIfThereAreSome() {
        written("one", x -> {
            Made.small(x);
            x.change(32, 15, 255, 33, 16, 4);
        }, size(1).coding().steps().segment(95, 32, 15, 0, 255, 33, 16, 4));
        Bytes told = new Bytes();
        for (int n = 0; n < 32; n++) {
            told.u1(n, 0, 0, 1, 33, 1, 0);
        }
        written("32", x -> {
            Made.small(x);
            for (int n = 0; n < 32; n++) {
                x.change(n, 0, 1, 33, 1, 0);
            }
        }, size(1).coding().steps().segment(95, told.toArray()));
    }

    /** What only a stream can tell: an end of 256 components, and of 65535 layers. */
    static void changesThatAScanRead() {
        Bytes main = new Bytes().main(1, 1).segment(95, 0, 255, 255, 255, 33, 0, 4);
        Counted x = new Bytes().add(main).barePart(0, 0, 0).end().feed(new Counted());
        Check.same("scan", x.scan(), 0);
        x.clear();
        Check.same("write", x.write(), main.size());
        int[] due = main.toArray();
        for (int k = 0; k < due.length; k++) {
            Check.same("at(" + k + ")", x.at(k), due[k]);
        }
    }

    static void sixteenComponentsAndAllElse() {
        Counted x = Made.with(Made::great);
        Check.same("great", x.write(), Made.GREAT_BYTES);
        x.part(0, 0, 1, 0);
        x.mark(217);
        x.plan();
        Check.same("scan", x.scan(), 0);
        Check.same("components", x.get(8, 0, 0), 16);
        Check.same("changes", x.get(14, 0, 0), 32);
        Check.same("the last shift", x.get(31, 15, 0), 16);
        Check.same("the last value", x.get(34, 15, 96), 15);
        Check.same("the last exponent", x.get(33, 15, 32), 1);
    }

    /** As many as fit, but not one more. */
    static void upTo65536Bytes() {
        Use justRoom = x -> {
            Made.filledTo(x, Made.MOST_BYTES - Made.SMALL_BYTES);
            x.plan();
            Made.small(x);
        };
        Counted x = Made.with(justRoom);
        Check.same("write", x.write(), Made.SMALL_BYTES);
        Check.same("at(-1)", x.at(-1), Made.MOST_BYTES);
        Check.same("the last", x.at(Made.MOST_BYTES - 1), 0);
        Check.same("its mark", x.at(Made.MOST_BYTES - 5), 92);
        Twin.full("one byte too many", Counted::write, y -> {
            Made.filledTo(y, Made.MOST_BYTES - Made.SMALL_BYTES + 1);
            y.plan();
            Made.small(y);
        });
        Twin.full("into a full one", Counted::write, Made::full, Made::fullAndScanned);
    }

    /** None is put, the stream is still scanned, and what fits is taken later. */
    static void behindNoRoom() {
        int size = Made.MOST_BYTES - 100;
        Use state = x -> Made.scannedOf(x, size);
        Twin.full("great", Counted::write, state);
        Counted x = Made.with(state);
        Check.refuses("great", UnsupportedOperationException.class, x::write);
        Check.same("found", x.found(-1, 0), 1);
        x.plan();
        Made.small(x);
        Check.same("small", x.write(), Made.SMALL_BYTES);
        Check.same("START", x.at(size + 1), 79);
    }

    static void thePlanAndThePlaceStay() {
        Twin.planAndPlaceStay("refused", Counted::write, Made::rich);
        Twin.planAndPlaceStay("scanned", Counted::write, Made::scanned);
    }

    static void notScannedAnyMore() {
        Counted x = Made.with(Made::scanned);
        x.write();
        Check.refuses("found", IllegalStateException.class, () -> x.found(-1, 0));
    }
}
