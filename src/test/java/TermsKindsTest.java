/** The boundary cases of "Terms": the cells of every kind at the edges of shapes and of ints. */
public final class TermsKindsTest extends Boundaries {
    public static void main(String[] args) {
        new TermsKindsTest().run();
    }

    @Override
    void testAll() {
        parameters();
        counts();
        splats();
        cellByCell();
        eachCellsNegative();
        sumsWrap();
        productsWrap();
        negativesWrap();
        dotsWrap();
        sumsOfCellsWrap();
        greatestDoesNotWrap();
        foldingWraps();
        turns();
        dotsOfOneAndOfFour();
        sumsOfOneAndOfFour();
        spreads();
        flats();
        parts();
        used512Times();
    }

    /** PARAMETER 0 of the shape with the cells 11, 12, .. in its first row, 21, .. in its second. */
    private Traced withCells(int rows, int columns) {
        Traced x = freshWith(rows, columns);
        for (int i = 0; i < rows; i++) {
            for (int j = 0; j < columns; j++) {
                x.set(0, i, j, 10 * i + j + 11).is(DONE);
            }
        }
        return x;
    }

    private void parameters() {
        sentence("Terms", "0 PARAMETER p (0 .. 3): any SHAPE, p and q don't tell it.");
        for (int rows = 1; rows <= 4; rows++) {
            for (int columns = 1; columns <= 4; columns++) {
                Traced x = fresh();
                for (int p = 0; p < 4; p++) {
                    x.set(p, rows - 1, columns - 1, 100 + p).is(DONE);
                    x.source(PARAMETER, rows, columns, p).is(p);
                    x.mark(p, true).is(DONE);
                }
                x.work().is(0);
                for (int p = 0; p < 4; p++) {
                    shapeIs(x, p, rows, columns);
                    x.cell(p, rows - 1, columns - 1).is(100 + p);
                }
            }
        }
        // the same PARAMETER may have several shapes at once
        Traced x = withCells(4, 4);
        x.source(PARAMETER, 1, 4, 0).is(1);
        x.source(PARAMETER, 4, 1, 0).is(2);
        for (int v = 0; v <= 2; v++) {
            x.mark(v, true).is(DONE);
        }
        x.work().is(0);
        cellsAre(x, 1, new int[][] {{11, 12, 13, 14}});
        cellsAre(x, 2, new int[][] {{11}, {21}, {31}, {41}});
        x.cell(0, 3, 3).is(44);
        x.simplify().is(3);
    }

    private void counts() {
        sentence("Terms", "2 COUNT: any SHAPE; p 0: the cell is i, p 1: j.");
        for (int rows = 1; rows <= 4; rows++) {
            for (int columns = 1; columns <= 4; columns++) {
                Traced x = fresh();
                for (int p = 0; p <= 1; p++) {
                    x.source(COUNT, rows, columns, p).is(p);
                    x.mark(p, true).is(DONE);
                }
                x.work().is(0);
                for (int i = 0; i < rows; i++) {
                    for (int j = 0; j < columns; j++) {
                        x.cell(0, i, j).is(i);
                        x.cell(1, i, j).is(j);
                    }
                }
            }
        }
    }

    private void splats() {
        sentence("Terms", "1 SPLAT: any SHAPE, all cells p.");
        for (int rows = 1; rows <= 4; rows++) {
            for (int columns = 1; columns <= 4; columns++) {
                Traced x = fresh();
                x.source(SPLAT, rows, columns, LEAST).is(0);
                x.mark(0, true).is(DONE);
                x.work().is(0);
                for (int i = 0; i < rows; i++) {
                    for (int j = 0; j < columns; j++) {
                        x.cell(0, i, j).is(LEAST);
                    }
                }
            }
        }
    }

    private void cellByCell() {
        sentence("Terms", "3 ADD, 4 MUL, 5 MAX of a and b, equal SHAPES, which it has: cell by cell.");
        int[][] shapes = {{1, 1}, {1, 4}, {4, 1}, {3, 4}, {4, 4}};
        for (int[] shape : shapes) {
            Traced x = withCells(shape[0], shape[1]);
            x.source(PARAMETER, shape[0], shape[1], 1).is(1);
            for (int i = 0; i < shape[0]; i++) {
                for (int j = 0; j < shape[1]; j++) {
                    x.set(1, i, j, 25 - 3 * i + j).is(DONE);
                }
            }
            for (int kind = ADD; kind <= MAX; kind++) {
                x.operation(kind, 0, 1, 0).is(kind - 1);
                x.mark(kind - 1, true).is(DONE);
            }
            x.work().is(3 * shape[0] * shape[1]);
            for (int i = 0; i < shape[0]; i++) {
                for (int j = 0; j < shape[1]; j++) {
                    int one = 10 * i + j + 11;
                    int other = 25 - 3 * i + j;
                    x.cell(2, i, j).is(one + other);
                    x.cell(3, i, j).is(one * other);
                    x.cell(4, i, j).is(one > other ? one : other);
                }
            }
        }
    }

    private void eachCellsNegative() {
        sentence("Terms", "6 NEG of a: each cell's negative.");
        int[][] shapes = {{1, 1}, {1, 4}, {4, 1}, {3, 4}, {4, 4}};
        for (int[] shape : shapes) {
            Traced x = withCells(shape[0], shape[1]);
            x.operation(NEG, 0, 0, 0).is(1);
            x.mark(1, true).is(DONE);
            x.work().is(shape[0] * shape[1]);
            for (int i = 0; i < shape[0]; i++) {
                for (int j = 0; j < shape[1]; j++) {
                    x.cell(1, i, j).is(-(10 * i + j + 11));
                }
            }
        }
    }

    /** One cell of a pair of PARAMETERS, worked out before and after simplifying. */
    private void pairIs(int kind, int one, int other, int want) {
        Traced x = fresh();
        x.source(PARAMETER, 1, 1, 0).is(0);
        x.source(PARAMETER, 1, 1, 1).is(1);
        x.operation(kind, 0, 1, 0).is(2);
        x.mark(2, true).is(DONE);
        x.set(0, 0, 0, one).is(DONE);
        x.set(1, 0, 0, other).is(DONE);
        x.work().is(1);
        x.cell(2, 0, 0).is(want);
        x.simplify().is(3);
        x.work().is(1);
        x.cell(2, 0, 0).is(want);
    }

    private void sumsWrap() {
        sentence("Terms", "of ints, all wrapping");
        pairIs(ADD, MOST, 0, MOST);
        pairIs(ADD, MOST, 1, LEAST);
        pairIs(ADD, LEAST, 0, LEAST);
        pairIs(ADD, LEAST, -1, MOST);
        pairIs(ADD, MOST, MOST, -2);
        pairIs(ADD, LEAST, LEAST, 0);
        pairIs(ADD, LEAST, MOST, -1);
    }

    private void productsWrap() {
        sentence("Terms", "of ints, all wrapping");
        pairIs(MUL, 46340, 46340, 2147395600);
        pairIs(MUL, 46341, 46341, -2147479015);
        pairIs(MUL, 65536, 32767, 2147418112);
        pairIs(MUL, 65536, 32768, LEAST);
        pairIs(MUL, 65536, 65536, 0);
        pairIs(MUL, LEAST, -1, LEAST);
        pairIs(MUL, MOST, MOST, 1);
        pairIs(MUL, LEAST, LEAST, 0);
    }

    private void negativesWrap() {
        sentence("Terms", "of ints, all wrapping");
        int[][] pairs = {{MOST, -MOST}, {LEAST + 1, MOST}, {LEAST, LEAST}, {0, 0}, {-1, 1}};
        for (int[] pair : pairs) {
            Traced x = freshWith(1, 1);
            x.operation(NEG, 0, 0, 0).is(1);
            x.mark(1, true).is(DONE);
            x.set(0, 0, 0, pair[0]).is(DONE);
            x.work().is(1);
            x.cell(1, 0, 0).is(pair[1]);
        }
    }

    private void dotsWrap() {
        sentence("Terms", "of ints, all wrapping");
        pairIs(DOT, 65536, 65536, 0);
        pairIs(DOT, LEAST, -1, LEAST);
        Traced x = fresh();
        x.source(PARAMETER, 1, 2, 0).is(0);
        x.source(PARAMETER, 2, 1, 1).is(1);
        x.operation(DOT, 0, 1, 0).is(2);
        x.mark(2, true).is(DONE);
        x.set(0, 0, 0, MOST).is(DONE);
        x.set(0, 0, 1, 1).is(DONE);
        x.set(1, 0, 0, 1).is(DONE);
        x.set(1, 1, 0, 1).is(DONE);
        x.work().is(2);
        x.cell(2, 0, 0).is(LEAST);
        x.set(1, 0, 0, 3).is(DONE);
        x.work().is(2);
        x.cell(2, 0, 0).is(MOST - 1);
    }

    private void sumsOfCellsWrap() {
        sentence("Terms", "of ints, all wrapping");
        Traced x = freshWith(2, 2);
        x.operation(SUM, 0, 0, 0).is(1);
        x.operation(SUM, 0, 0, 1).is(2);
        x.mark(1, true).is(DONE);
        x.mark(2, true).is(DONE);
        x.set(0, 0, 0, MOST).is(DONE);
        x.set(0, 0, 1, 1).is(DONE);
        x.set(0, 1, 0, 2).is(DONE);
        x.set(0, 1, 1, LEAST).is(DONE);
        x.work().is(8);
        cellsAre(x, 1, new int[][] {{LEAST + 1, LEAST + 1}});
        cellsAre(x, 2, new int[][] {{LEAST}, {LEAST + 2}});
    }

    private void greatestDoesNotWrap() {
        sentence("Terms", "5 MAX of a and b, equal SHAPES, which it has: cell by cell.");
        pairIs(MAX, LEAST, MOST, MOST);
        pairIs(MAX, MOST, LEAST, MOST);
        pairIs(MAX, LEAST, 1, 1);
        pairIs(MAX, LEAST, LEAST + 1, LEAST + 1);
        pairIs(MAX, -1, -2, -1);
        pairIs(MAX, 0, 0, 0);
    }

    private void foldIs(int kind, int one, int other, int want) {
        Traced x = fresh();
        x.source(SPLAT, 2, 2, one).is(0);
        x.source(SPLAT, 2, 2, other).is(1);
        x.operation(kind, 0, kind == NEG || kind == SUM ? 0 : 1, 0).is(2);
        x.mark(2, true).is(DONE);
        x.work();
        x.cell(2, 0, 1).is(want);
        x.simplify();
        x.count(1).is(1);
        operationIs(x, 2, SPLAT, -1, -1, want, 0);
        int standIn = (int) x.standIn(2).got();
        x.work().is(0);
        x.cell(standIn, 0, 1).is(want);
    }

    private void foldingWraps() {
        sentence("Terms", "1 FOLD: it has ARGUMENTS and all are SPLATS: it becomes the SPLAT of what each of its "
                + "cells then is.");
        foldIs(ADD, MOST, 1, LEAST);
        foldIs(ADD, LEAST, -1, MOST);
        foldIs(MUL, 65536, 65536, 0);
        foldIs(MUL, LEAST, -1, LEAST);
        foldIs(MAX, LEAST, MOST, MOST);
        foldIs(MAX, 1, LEAST, 1);
        foldIs(NEG, LEAST, 0, LEAST);
        foldIs(NEG, MOST, 0, -MOST);
        foldIs(DOT, MOST, 1, -2);
        foldIs(DOT, 65536, 32768, 0);
        foldIs(DOT, 65536, 16384, LEAST);
        foldIs(SUM, MOST, 0, -2);
        foldIs(SUM, LEAST, 0, 0);
    }

    private void turns() {
        sentence("Terms", "7 TURN of a: rows and columns changed.");
        int[][] shapes = {{1, 1}, {1, 4}, {4, 1}, {4, 4}, {3, 4}, {4, 3}};
        for (int[] shape : shapes) {
            Traced x = withCells(shape[0], shape[1]);
            x.operation(TURN, 0, 0, 0).is(1);
            x.mark(1, true).is(DONE);
            x.work().is(shape[0] * shape[1]);
            for (int i = 0; i < shape[1]; i++) {
                for (int j = 0; j < shape[0]; j++) {
                    x.cell(1, i, j).is(10 * j + i + 11);
                }
            }
            x.cell(1, shape[1], 0).is(NONE);
            x.cell(1, 0, shape[0]).is(NONE);
        }
    }

    private void dotsOfOneAndOfFour() {
        sentence("Terms", "rows of a, columns of b; the matrix product.");
        Traced outer = fresh();
        outer.source(COUNT, 4, 1, 0).is(0);
        outer.source(COUNT, 1, 4, 1).is(1);
        outer.operation(DOT, 0, 1, 0).is(2);
        outer.operation(DOT, 1, 0, 0).is(3);
        outer.mark(2, true).is(DONE);
        outer.mark(3, true).is(DONE);
        outer.work().is(20);
        cellsAre(outer, 2, new int[][] {{0, 0, 0, 0}, {0, 1, 2, 3}, {0, 2, 4, 6}, {0, 3, 6, 9}});
        cellsAre(outer, 3, new int[][] {{14}});
        Traced square = withCells(4, 4);
        square.operation(DOT, 0, 0, 0).is(1);
        square.mark(1, true).is(DONE);
        square.work().is(64);
        square.cell(1, 0, 0).is(11 * 11 + 12 * 21 + 13 * 31 + 14 * 41);
        square.cell(1, 0, 3).is(11 * 14 + 12 * 24 + 13 * 34 + 14 * 44);
        square.cell(1, 3, 0).is(41 * 11 + 42 * 21 + 43 * 31 + 44 * 41);
        square.cell(1, 3, 3).is(41 * 14 + 42 * 24 + 43 * 34 + 44 * 44);
    }

    private void sumsOfOneAndOfFour() {
        sentence("Terms", "9 SUM of a: p 0: over the rows, 1 row and as many columns as a");
        int[][] shapes = {{1, 4}, {4, 1}, {1, 1}, {4, 4}};
        int[][] overRows = {{11, 12, 13, 14}, {104}, {11}, {104, 108, 112, 116}};
        int[][] overColumns = {{50}, {11, 21, 31, 41}, {11}, {50, 90, 130, 170}};
        for (int k = 0; k < shapes.length; k++) {
            Traced x = withCells(shapes[k][0], shapes[k][1]);
            x.operation(SUM, 0, 0, 0).is(1);
            x.operation(SUM, 0, 0, 1).is(2);
            x.mark(1, true).is(DONE);
            x.mark(2, true).is(DONE);
            x.work().is(2 * shapes[k][0] * shapes[k][1]);
            cellsAre(x, 1, new int[][] {overRows[k]});
            x.cell(1, 1, 0).is(NONE);
            for (int i = 0; i < overColumns[k].length; i++) {
                x.cell(2, i, 0).is(overColumns[k][i]);
            }
            x.cell(2, 0, 1).is(NONE);
            x.cell(2, overColumns[k].length, 0).is(NONE);
        }
    }

    private void spreads() {
        sentence("Terms", "the cell is a's in row i, or 0 if a has 1 row, and column j, or 0 if a has 1 column.");
        int[][] shapes = {{1, 1, 4, 4}, {1, 4, 4, 4}, {4, 1, 4, 4}, {4, 4, 4, 4}, {1, 1, 1, 1}, {1, 2, 3, 2}, {3, 1, 3, 2}};
        for (int[] s : shapes) {
            Traced x = withCells(s[0], s[1]);
            x.reshape(SPREAD, 0, s[2], s[3]).is(1);
            x.mark(1, true).is(DONE);
            x.work().is(s[2] * s[3]);
            for (int i = 0; i < s[2]; i++) {
                for (int j = 0; j < s[3]; j++) {
                    x.cell(1, i, j).is(11 + (s[0] == 1 ? 0 : 10 * i) + (s[1] == 1 ? 0 : j));
                }
            }
        }
    }

    private void flats() {
        sentence("Terms", "the cells in the same order, row by row.");
        Traced x = withCells(3, 4);
        x.reshape(FLAT, 0, 4, 3).is(1);
        x.reshape(FLAT, 1, 3, 4).is(2);
        x.mark(2, true).is(DONE);
        x.work().is(24);
        cellsAre(x, 1, new int[][] {{11, 12, 13}, {14, 21, 22}, {23, 24, 31}, {32, 33, 34}});
        cellsAre(x, 2, new int[][] {{11, 12, 13, 14}, {21, 22, 23, 24}, {31, 32, 33, 34}});
        Traced row = withCells(4, 1);
        row.reshape(FLAT, 0, 1, 4).is(1);
        row.reshape(FLAT, 0, 2, 2).is(2);
        row.mark(1, true).is(DONE);
        row.mark(2, true).is(DONE);
        row.work().is(8);
        cellsAre(row, 1, new int[][] {{11, 21, 31, 41}});
        cellsAre(row, 2, new int[][] {{11, 21}, {31, 41}});
    }

    private void parts() {
        sentence("Terms", "12 PART of a: from row p and column q on, any SHAPE that lies in a.");
        Traced x = withCells(4, 4);
        int[][] cut = {{0, 0, 4, 4}, {0, 0, 1, 1}, {3, 3, 1, 1}, {3, 0, 1, 4}, {0, 3, 4, 1}, {1, 2, 3, 2}};
        for (int[] c : cut) {
            int v = x.values();
            x.part(0, c[0], c[1], c[2], c[3]).is(v);
            x.mark(v, true).is(DONE);
        }
        x.work().is(16 + 1 + 1 + 4 + 4 + 6);
        for (int k = 0; k < cut.length; k++) {
            for (int i = 0; i < cut[k][2]; i++) {
                for (int j = 0; j < cut[k][3]; j++) {
                    x.cell(k + 1, i, j).is(10 * (cut[k][0] + i) + cut[k][1] + j + 11);
                }
            }
        }
    }

    private void used512Times() {
        sentence("What it is", "An object is used for at most 512 calls after it has been made");
        Traced x = freshWith(1, 1);
        x.mark(0, true).is(DONE);
        while (x.callsMade() < 509) {
            x.set(0, 0, 0, x.callsMade()).is(DONE);
        }
        x.simplify().is(1);
        x.work().is(0);
        x.cell(0, 0, 0).is(508);
    }
}
