/** The boundary cases of the document's section 1: LAYERS, COLUMNS, SLOWNESSES, WALLS, TIMES and WAYS. */
public final class GroundTest extends Looks {
    public static void main(String[] args) {
        GroundTest t = new GroundTest();
        t.firstGround();
        t.cornersAndRims();
        t.endsOfLayers();
        t.slownesses();
        t.layers();
        t.toItself();
        t.wallToItself();
        t.noWay();
        t.allWalls();
        t.oneOpenCell();
        t.slownessOfWall();
        t.smallestNextCell();
        t.wayFromItsBeginning();
        t.longestWay();
        t.windings();
        t.reached();
        t.provedWithout();
        t.cellsOfStationsAndShocks();
        t.end();
    }

    private void firstGround() {
        about("each cell has 3 of the WAVE 0, 5 of the WAVE 1 at first; none is a WALL at first");
        Quakebook x = new Quakebook();
        for (int cell = 0; cell < 96; cell++) {
            is(3, x.ofCell(cell, 0), "ofCell(" + cell + ", 0)");
            is(5, x.ofCell(cell, 1), "ofCell(" + cell + ", 1)");
            is(0, x.ofCell(cell, 2), "ofCell(" + cell + ", 2)");
        }
        is(0, x.count(9), "count(9)");
        is(6, x.time(94, 95, 0), "time(94, 95, 0)");
        is(10, x.time(94, 95, 1), "time(94, 95, 1)");
    }

    private void cornersAndRims() {
        about("8 LAYERS with 12 cells each; neighbours: side by side in a LAYER, or one above the other in a COLUMN");
        int[][] cells = {{0, 3}, {11, 3}, {84, 3}, {95, 3}, {1, 4}, {10, 4}, {12, 4}, {23, 4}, {72, 4}, {83, 4},
            {85, 4}, {94, 4}, {13, 5}, {22, 5}, {73, 5}, {82, 5}, {41, 5}};
        Quakebook x = new Quakebook();
        for (int[] cell : cells) {
            is(cell[1], x.reach(cell[0], 0, 6), "reach(" + cell[0] + ", 0, 6)");
            is(cell[1], x.reach(cell[0], 1, 10), "reach(" + cell[0] + ", 1, 10)");
            is(1, x.reach(cell[0], 1, 9), "reach(" + cell[0] + ", 1, 9)");
        }
        is("28 40", x.way(28, 40, 0), "way(28, 40, 0)");
        is("28 29", x.way(28, 29, 0), "way(28, 29, 0)");
    }

    private void endsOfLayers() {
        about("the last cell of a LAYER and the first of the next one are no neighbours, nor are the rims");
        Quakebook x = new Quakebook();
        for (int layer = 0; layer < 7; layer++) {
            int last = 12 * layer + 11;
            is(72, x.time(last, last + 1, 0), "time(" + last + ", " + (last + 1) + ", 0)");
            is(120, x.time(last + 1, last, 1), "time(" + (last + 1) + ", " + last + ", 1)");
        }
        is(66, x.time(0, 11, 0), "time(0, 11, 0)");
        is(42, x.time(0, 84, 0), "time(0, 84, 0)");
        is(42, x.time(95, 11, 0), "time(95, 11, 0)");
        is(108, x.time(0, 95, 0), "time(0, 95, 0)");
        is(108, x.time(84, 11, 0), "time(84, 11, 0)");
    }

    private void slownesses() {
        about("a SLOWNESS is 1 to 9; a STEP takes the SLOWNESSES of both, added");
        Quakebook x = new Quakebook();
        is(3, x.slow(0, 0, 1), "slow(0, 0, 1)");
        is(3, x.slow(1, 0, 9), "slow(1, 0, 9)");
        is(10, x.time(0, 1, 0), "time(0, 1, 0)");
        is(9, x.slow(1, 0, 1), "slow(1, 0, 1)");
        is(2, x.time(0, 1, 0), "time(0, 1, 0)");
        is(5, x.slow(94, 1, 9), "slow(94, 1, 9)");
        is(5, x.slow(95, 1, 9), "slow(95, 1, 9)");
        is(18, x.time(95, 94, 1), "time(95, 94, 1)");
        is(6, x.time(95, 94, 0), "time(95, 94, 0)");
        argument(x, () -> x.slow(0, 0, 0), "slow(0, 0, 0)");
        argument(x, () -> x.slow(0, 0, 10), "slow(0, 0, 10)");
        is(1, x.ofCell(0, 0), "ofCell(0, 0)");
        is(5, x.count(6), "count(6)");
    }

    private void layers() {
        about("layer(): of how many cells it was another one");
        Quakebook x = new Quakebook();
        is(0, x.layer(0, 0, 3), "layer(0, 0, 3) as it was");
        is(12, x.layer(0, 1, 3), "layer(0, 1, 3)");
        is(12, x.layer(7, 0, 9), "layer(7, 0, 9)");
        is(12, x.layer(7, 0, 1), "layer(7, 0, 1)");
        x.slow(84, 0, 2);
        x.slow(95, 0, 2);
        is(2, x.layer(7, 0, 1), "layer(7, 0, 1) with two others");
        is(3, x.ofCell(83, 0), "ofCell(83, 0)");
        is(1, x.ofCell(84, 0), "ofCell(84, 0)");
        is(3, x.ofCell(11, 1), "ofCell(11, 1)");
        is(5, x.ofCell(12, 1), "ofCell(12, 1)");
        index(x, () -> x.layer(8, 0, 1), "layer(8, 0, 1)");
        index(x, () -> x.layer(-1, 0, 1), "layer(-1, 0, 1)");
    }

    private void toItself() {
        about("TIME: 0 to itself; WAY: its cells, with both ends");
        Quakebook x = new Quakebook();
        for (int cell : new int[] {0, 11, 50, 84, 95}) {
            is(0, x.time(cell, cell, 0), "time(" + cell + ", itself, 0)");
            is(0, x.time(cell, cell, 1), "time(" + cell + ", itself, 1)");
            is("" + cell, x.way(cell, cell, 1), "way(" + cell + ", itself, 1)");
            is(1, x.reach(cell, 0, 0), "reach(" + cell + ", 0, 0)");
            is(true, x.isProved(cell, cell, 0), "isProved(" + cell + ", itself, 0)");
        }
    }

    private void wallToItself() {
        about("NONE if one of both is a WALL (also to itself)");
        Quakebook x = new Quakebook();
        x.wall(5, true);
        for (int wave = 0; wave < 2; wave++) {
            is(-1, x.time(5, 5, wave), "time(5, 5, ..)");
            is(-1, x.time(4, 5, wave), "time(4, 5, ..)");
            is(-1, x.time(5, 4, wave), "time(5, 4, ..)");
            is("", x.way(5, 5, wave), "way(5, 5, ..)");
            is("", x.way(4, 5, wave), "way(4, 5, ..)");
            is("", x.way(5, 4, wave), "way(5, 4, ..)");
            is(0, x.reach(5, wave, 9999), "reach(5, .., 9999)");
            is(95, x.reach(4, wave, 9999), "reach(4, .., 9999)");
        }
        x.wall(5, false);
        is(0, x.time(5, 5, 0), "time(5, 5, 0) without the wall");
        is("4 5", x.way(4, 5, 0), "way(4, 5, 0) without the wall");
    }

    private void noWay() {
        about("NONE if there is no way; WAY: \"\" if there is none");
        Quakebook x = new Quakebook();
        x.wall(1, true);
        x.wall(12, true);
        is(-1, x.time(0, 13, 0), "time(0, 13, 0)");
        is(-1, x.time(13, 0, 1), "time(13, 0, 1)");
        is("", x.way(0, 13, 0), "way(0, 13, 0)");
        is("", x.way(95, 0, 1), "way(95, 0, 1)");
        is(0, x.time(0, 0, 0), "time(0, 0, 0) of one shut in");
        is(1, x.reach(0, 0, 9999), "reach(0, 0, 9999)");
        is(93, x.reach(95, 0, 9999), "reach(95, 0, 9999)");
        // One corner to another one is no STEP.
        is(true, x.isProved(0, 13, 0), "isProved(0, 13, 0)");
        is(1, x.wall(12, false), "wall(12, false)");
        is("0 12 13", x.way(0, 13, 0), "way(0, 13, 0) with a door");
    }

    private static Quakebook walled() {
        Quakebook x = new Quakebook();
        for (int cell = 0; cell < 96; cell++) {
            x.wall(cell, true);
        }
        return x;
    }

    private void allWalls() {
        about("each cell may be a WALL");
        Quakebook x = walled();
        is(96, x.count(9), "count(9)");
        for (int cell = 0; cell < 96; cell += 5) {
            is(-1, x.time(cell, cell, 0), "time(" + cell + ", itself, 0)");
            is(0, x.reach(cell, 1, 9999), "reach(" + cell + ", 1, 9999)");
        }
        x.station(40);
        x.tell(40, 100, 0, 0);
        x.arrive(0, 0, 100, 1);
        x.arrive(0, 1, 100, 1);
        is(3, x.putTo(-1), "putTo(-1)");
        is(0, x.putTo(0), "putTo(0)");
        is(0, x.gather(2), "gather(2)");
        is(-1, x.bestCell(3), "bestCell(3)");
        is("", x.possible(1), "possible(1)");
        // Without 1 still none is, without 0 too then: but the last of all would leave none, for which each cell is.
        is(1, x.bad(3), "bad(3)");
        is(2, x.bad(2), "bad(2)");
        is("-", x.made(0), "made(0)");
        is(true, x.isSound(), "isSound()");
        is(true, x.isProved(0, 95, 0), "isProved(0, 95, 0)");
    }

    private void oneOpenCell() {
        about("one cell alone that is no WALL");
        Quakebook x = walled();
        is(1, x.wall(40, false), "wall(40, false)");
        is(0, x.wall(40, false), "wall(40, false) again");
        is(95, x.count(9), "count(9)");
        is(1, x.reach(40, 0, 9999), "reach(40, 0, 9999)");
        is("40", x.way(40, 40, 0), "way(40, 40, 0)");
        x.station(40);
        x.station(40);
        x.arrive(0, 0, 100, 1);
        x.arrive(1, 1, 106, 1);
        is(40, x.bestCell(3), "bestCell(3)");
        is("40", x.possible(3), "possible(3)");
        is(1, x.gather(2), "gather(2)");
        is("0@40:103", x.book(), "book()");
    }

    private void slownessOfWall() {
        about("a cell keeps its SLOWNESSES while it is a WALL");
        Quakebook x = new Quakebook();
        x.slow(1, 0, 8);
        is(0, x.wall(1, true), "wall(1, true)");
        is(8, x.ofCell(1, 0), "ofCell(1, 0)");
        is(8, x.slow(1, 0, 9), "slow(1, 0, 9)");
        is(12, x.layer(0, 1, 7), "layer(0, 1, 7)");
        is(1, x.wall(1, false), "wall(1, false)");
        is(12, x.time(0, 1, 0), "time(0, 1, 0)");
        is(14, x.time(0, 1, 1), "time(0, 1, 1)");
    }

    private void smallestNextCell() {
        about("of the ways that take so long the one whose next cell is the smallest, each time");
        Quakebook x = new Quakebook();
        is("41 29 28 27", x.way(41, 27, 0), "up ahead of left");
        is("27 28 29 41", x.way(27, 41, 0), "right ahead of down");
        is("29 28 27 39", x.way(29, 39, 0), "left ahead of down");
        is("39 27 28 29", x.way(39, 29, 0), "up ahead of right");
        // A slow cell on the first of these, so that only the others take so long.
        x.slow(28, 0, 4);
        is("41 40 39 27", x.way(41, 27, 0), "round below");
        is("27 39 40 41", x.way(27, 41, 0), "round below back");
    }

    /** Two ways as long between 27 and 29: over the first LAYER, or through a slow cell. */
    static Quakebook twoWays() {
        Quakebook x = walled();
        for (int cell : new int[] {27, 15, 3, 4, 5, 6, 18, 30, 29, 28}) {
            x.wall(cell, false);
        }
        for (int layer = 0; layer < 3; layer++) {
            x.layer(layer, 0, 1);
        }
        x.slow(28, 0, 7);
        return x;
    }

    private void wayFromItsBeginning() {
        about("WAY: the smallest next cell, from its beginning on");
        Quakebook x = twoWays();
        is(16, x.time(27, 29, 0), "time(27, 29, 0)");
        is("27 15 3 4 5 6 18 30 29", x.way(27, 29, 0), "way(27, 29, 0)");
        is("29 28 27", x.way(29, 27, 0), "way(29, 27, 0)");
        is(true, x.isProved(27, 29, 0), "isProved(27, 29, 0)");
        x.slow(28, 0, 6);
        is("27 28 29", x.way(27, 29, 0), "way(27, 29, 0) with a quicker cell");
        is(14, x.time(27, 29, 0), "time(27, 29, 0)");
        x.slow(28, 0, 8);
        is("29 30 18 6 5 4 3 15 27", x.way(29, 27, 0), "way(29, 27, 0) with a slower cell");
        is(16, x.time(29, 27, 0), "time(29, 27, 0)");
    }

    /** All LAYERS as slow as can be, with a door at one end of each second one. */
    static Quakebook snake() {
        Quakebook x = new Quakebook();
        for (int layer = 1; layer < 8; layer += 2) {
            for (int column = 0; column < 12; column++) {
                x.wall(12 * layer + column, column != (layer % 4 == 1 ? 11 : 0));
            }
        }
        for (int layer = 0; layer < 8; layer++) {
            x.layer(layer, 0, 9);
        }
        return x;
    }

    private void longestWay() {
        about("TIME: the least sum of STEPS on any way, however long");
        Quakebook x = snake();
        // 11 STEPS in each of four LAYERS, two through each of three doors, one to the last.
        is(51 * 18, x.time(0, 84, 0), "time(0, 84, 0)");
        is(51 * 10, x.time(84, 0, 1), "time(84, 0, 1)");
        is(52, x.way(0, 84, 0).split(" ").length, "cells of way(0, 84, 0)");
        is(52, x.reach(0, 0, 51 * 18), "reach(0, 0, TIME)");
        is(51, x.reach(0, 0, 51 * 18 - 1), "reach(0, 0, TIME less 1)");
        is(true, x.isProved(84, 0, 0), "isProved(84, 0, 0)");
        is(true, x.isProved(0, 95, 1), "isProved(0, 95, 1)");
    }

    /** As long a WAY as a long search for WALLS found: 61 STEPS from the cell 9 to the cell 89. */
    static Quakebook winding(int wave, int slowness) {
        String[] ground = {
            "...#....#...",
            ".#.#.##..##.",
            ".#.#...#..#.",
            ".#..##..#...",
            ".##...#..###",
            ".####..#....",
            ".#...#..###.",
            "...#..#....."};
        Quakebook x = new Quakebook();
        for (int layer = 0; layer < 8; layer++) {
            x.layer(layer, wave, slowness);
        }
        for (int cell = 0; cell < 96; cell++) {
            if (ground[cell / 12].charAt(cell % 12) == '#') {
                x.wall(cell, true);
            }
        }
        return x;
    }

    private void windings() {
        about("TIME and WAY, as long as WALLS can make them");
        String due = "9 10 11 23 35 47 46 45 33 32 20 19 7 6 5 4 16 28 29 30 42 43 55 56 68 69 70 71 83 95 94 93"
                + " 92 91 79 78 66 65 53 52 51 39 38 26 14 2 1 0 12 24 36 48 60 72 84 85 86 74 75 76 88 89";
        for (int wave = 0; wave < 2; wave++) {
            for (int slowness = 1; slowness <= 9; slowness += 4) {
                Quakebook x = winding(wave, slowness);
                is(due, x.way(9, 89, wave), "way(9, 89, " + wave + ")");
                is(61 * 2 * slowness, x.time(9, 89, wave), "time(9, 89, " + wave + ")");
                is(61 * 2 * slowness, x.time(89, 9, wave), "time(89, 9, " + wave + ")");
                is(62, x.reach(9, wave, 61 * 2 * slowness), "reach(9, " + wave + ", TIME)");
                is(61, x.reach(9, wave, 61 * 2 * slowness - 1), "reach(9, " + wave + ", TIME less 1)");
                is(true, x.isProved(89, 9, wave), "isProved(89, 9, " + wave + ")");
            }
        }
    }

    private void reached() {
        about("reach(): how many cells have a TIME from that one that is not more");
        Quakebook x = new Quakebook();
        int[][] looks = {{0, 0, 0, 1}, {0, 0, 5, 1}, {0, 0, 6, 3}, {0, 0, 7, 3}, {0, 0, 11, 3}, {0, 0, 12, 6},
            {0, 0, 107, 95}, {0, 0, 108, 96}, {0, 0, 9999, 96}, {95, 1, 179, 95}, {95, 1, 180, 96}};
        for (int[] look : looks) {
            is(look[3], x.reach(look[0], look[1], look[2]),
                    "reach(" + look[0] + ", " + look[1] + ", " + look[2] + ")");
        }
        argument(x, () -> x.reach(0, 0, -1), "reach(0, 0, -1)");
        argument(x, () -> x.reach(0, 0, 10000), "reach(0, 0, 10000)");
    }

    private void provedWithout() {
        about("isProved(): also if there is no WAY");
        Quakebook x = new Quakebook();
        x.wall(0, true);
        x.wall(94, true);
        x.wall(83, true);
        is(true, x.isProved(0, 0, 0), "isProved(0, 0, 0)");
        is(true, x.isProved(0, 1, 1), "isProved(0, 1, 1)");
        is(true, x.isProved(1, 0, 0), "isProved(1, 0, 0)");
        is(true, x.isProved(95, 1, 0), "isProved(95, 1, 0)");
        is(true, x.isProved(1, 95, 1), "isProved(1, 95, 1)");
        is(true, x.isProved(95, 95, 1), "isProved(95, 95, 1)");
    }

    private void cellsOfStationsAndShocks() {
        about("ofCell(): how many STATIONS are there, how many SHOCKS, from none to as many as there can be");
        Quakebook x = new Quakebook();
        for (int k = 0; k < 10; k++) {
            is(Math.min(k, 6), x.ofCell(95, 3), "ofCell(95, 3)");
            is(k, x.ofCell(95, 4), "ofCell(95, 4)");
            x.station(95);
            x.tell(95, k, 0, 0);
        }
        is(6, x.ofCell(95, 3), "ofCell(95, 3)");
        is(10, x.ofCell(95, 4), "ofCell(95, 4)");
        is(0, x.ofCell(94, 3) + x.ofCell(94, 4) + x.ofCell(0, 3) + x.ofCell(0, 4), "those of other cells");
        is(0, x.ofCell(95, 2), "ofCell(95, 2)");
    }
}
