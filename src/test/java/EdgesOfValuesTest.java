import java.util.function.IntUnaryOperator;

/** The edges of what the document says of values: planes, guesses, contexts, slices. */
public final class EdgesOfValuesTest {
    private static final int[] NEAR = {0, 1, 2, 3, 4, 5, 6, 9, 10};
    private static final int[] FAR = {0, 1, 126, 127, 128, 129, 254, 255};

    public static void main(String[] args) {
        for (int mode = 0; mode < 2; mode++) {
            planes(mode);
            moduli(mode);
            differences(mode);
            differencesOfOthers(mode);
            turning(mode);
            sets(mode);
            lastContexts(mode);
            steps(mode);
            neighbours(mode);
            rows(mode);
        }
        Expect.end();
    }

    private static void planes(int mode) {
        Expect.sentence("Values", "v0 = the sample", () -> {
            for (int sample = 0; sample < 256; sample++) {
                Asides.both("sample " + sample, Asides.picture(mode, 1, new int[][] {{sample}}));
            }
        });
        Expect.sentence("Values", "v0 = g + (v1 + v2 >> 2)", () -> {
            int[] some = {0, 1, 2, 3, 4, 5, 6, 127, 128, 250, 251, 252, 253, 254, 255};
            for (int r : some) {
                for (int g : some) {
                    for (int b : some) {
                        Asides.both("r " + r + ", g " + g + ", b " + b,
                                Asides.picture(mode, 1, new int[][] {{r}}, new int[][] {{g}}, new int[][] {{b}}));
                    }
                }
            }
            Asides.told("rounded to 0", Asides.among(mode, 3, 2, NEAR), rules -> rules.quarter = s -> s / 4);
            Asides.told("one less", Asides.among(mode, 3, 2, NEAR), rules -> rules.quarter = s -> Math.floorDiv(s - 1, 4));
            Asides.told("one more", Asides.among(mode, 3, 2, NEAR), rules -> rules.quarter = s -> Math.floorDiv(s + 1, 4));
        });
    }

    private static void moduli(int mode) {
        Expect.sentence("Values", "a plane of v0 has M = 256", () -> {
            for (int m : new int[] {254, 258, 512}) {
                Asides.told("M = " + m, Asides.among(mode, 1, 3, FAR), rules -> rules.modulus[0] = m);
                Asides.told("M = " + m, Asides.among(mode, 3, 3, FAR), rules -> rules.modulus[0] = m);
            }
        });
        Expect.sentence("Values", "others have M = 512", () -> {
            for (int m : new int[] {510, 514, 256, 1024}) {
                Asides.told("M of v1 = " + m, Asides.among(mode, 3, 3, FAR), rules -> rules.modulus[1] = m);
                Asides.told("M of v2 = " + m, Asides.among(mode, 3, 3, FAR), rules -> rules.modulus[2] = m);
            }
        });
        Expect.sentence("Values", "e is from -M / 2 to M / 2 - 1", () -> {
            Asides.told("to M / 2", Asides.among(mode, 1, 3, FAR), rules -> rules.leastIsHigher[0] = 1);
            Asides.told("from -M / 2 - 1", Asides.among(mode, 1, 3, FAR), rules -> rules.leastIsHigher[0] = -1);
            for (int plane = 0; plane < 3; plane++) {
                int p = plane;
                Asides.told("v" + p + " to M / 2", Asides.among(mode, 3, 3, FAR), rules -> rules.leastIsHigher[p] = 1);
                Asides.told("v" + p + " from -M / 2 - 1", Asides.among(mode, 3, 3, FAR),
                        rules -> rules.leastIsHigher[p] = -1);
            }
        });
    }

    /** The second value of a row is guessed to be the first: every difference can be had, and wraps. */
    private static void differences(int mode) {
        Expect.sentence("Values", "e differs from the value less the guess by a multiple of M: v0", () -> {
            for (int first : new int[] {0, 1, 127, 128, 129, 254, 255}) {
                for (int second = 0; second < 256; second++) {
                    Asides.both(first + ", " + second, Asides.picture(mode, 1, new int[][] {{first, second}}));
                }
            }
        });
    }

    private static void differencesOfOthers(int mode) {
        Expect.sentence("Values", "e differs from the value less the guess by a multiple of M: v1 and v2", () -> {
            for (int first : new int[] {-255, -254, -1, 0, 1, 254, 255}) {
                for (int second = -255; second <= 255; second += second < -250 || second > 249 ? 1 : 3) {
                    int[][] green = {{Math.max(0, -first), Math.max(0, -second)}};
                    int[][] less = {{green[0][0] + first, green[0][1] + second}};
                    int[][] same = {green[0].clone()};
                    Asides.both("v1 " + first + ", " + second, Asides.picture(mode, 1, same, green, less));
                    Asides.both("v2 " + first + ", " + second, Asides.picture(mode, 1, less, green, same));
                }
            }
        });
    }

    private static void turning(int mode) {
        Expect.sentence("Values", "when c is below 0, c and e are both turned", () -> {
            Asides.told("when c is 0", Asides.among(mode, 1, 3, NEAR), rules -> rules.turnedBelow = 1);
            Asides.told("when c is 0", Asides.among(mode, 3, 3, NEAR), rules -> rules.turnedBelow = 1);
        });
        Expect.sentence("Values", "e of -M / 2 stays as it is then", () -> {
            Asides.told("it becomes M / 2", Asides.among(mode, 1, 3, FAR), rules -> rules.leastIsTurned[0] = true);
            for (int plane = 0; plane < 3; plane++) {
                int p = plane;
                Asides.told("it becomes M / 2, v" + p, Asides.among(mode, 3, 3, 0, 1, 128, 129, 255),
                        rules -> rules.leastIsTurned[p] = true);
            }
        });
    }

    private static void sets(int mode) {
        Expect.sentence("Values", "of the first set for v0, of the second set for others", () -> {
            int[][] others = {{0, 0, 0}, {0, 0, 1}, {0, 1, 0}, {0, 1, 2}};
            for (int[] set : others) {
                Asides.told("sets " + set[0] + set[1] + set[2], Asides.among(mode, 3, 3, NEAR), rules -> rules.set = set);
            }
        });
    }

    /** c at the middle place of the second row is 62, 61, 60, or as much below 0, or near 0. */
    private static void lastContexts(int mode) {
        Expect.sentence("Values", "the context is c, 0 .. 62", () -> {
            int[][] rows = {{20, 10, 0, 30, 62}, {20, 10, 5, 25, 62}, {20, 10, 6, 25, 61}, {20, 10, 10, 25, 60},
                {20, 10, 11, 25, 59}, {20, 16, 0, 25, 57}, {10, 20, 30, 0, -62}, {10, 20, 24, 5, -61},
                {10, 20, 20, 5, -60}, {10, 10, 10, 10, 0}, {10, 10, 9, 10, 1}, {10, 10, 11, 10, -1},
                {10, 10, 5, 10, 2}, {10, 10, 15, 10, -2}, {10, 9, 20, 10, 3}, {10, 11, 0, 10, -3}};
            for (int[] r : rows) {
                for (int middle : new int[] {0, 9, 10, 11, 200, 255}) {
                    int[][] values = {{r[0], r[1], r[2]}, {r[3], middle, 10}, {r[0], r[1], r[2]}, {r[3], middle, 10}};
                    Expect.same("c", DocModel.guessAndContext(values, 0, 1, 1, new Rules())[1], r[4]);
                    int[][] none = new int[4][3];
                    Asides.both("v0, c " + r[4], Asides.picture(mode, 1, values));
                    Asides.both("v1, c " + r[4], Asides.picture(mode, 1, none, none, values));
                    Asides.both("v2, c " + r[4], Asides.picture(mode, 1, values, none, none));
                }
            }
        });
    }

    /** Each of the three differences has its own q, so that each one's edges must be told. */
    private static void steps(int mode) {
        Expect.sentence("Values", "q(d) is 0 for d = 0, 1 for 1 .. 4, 2 from 5 on, and -q(-d) below 0", () -> {
            for (int which = 0; which < 3; which++) {
                String what = "difference " + which + ": ";
                stepTold(mode, which, what + "0 for 1", d -> d == 1 ? 0 : Rules.q(d));
                stepTold(mode, which, what + "0 for -1", d -> d == -1 ? 0 : Rules.q(d));
                stepTold(mode, which, what + "1 for 0", d -> d == 0 ? 1 : Rules.q(d));
                stepTold(mode, which, what + "2 for 4", d -> d == 4 ? 2 : Rules.q(d));
                stepTold(mode, which, what + "1 for 5", d -> d == 5 ? 1 : Rules.q(d));
                stepTold(mode, which, what + "-2 for -4", d -> d == -4 ? -2 : Rules.q(d));
                stepTold(mode, which, what + "-1 for -5", d -> d == -5 ? -1 : Rules.q(d));
                stepTold(mode, which, what + "not turned below 0", d -> Rules.q(Math.abs(d)));
            }
        });
    }

    private static void stepTold(int mode, int which, String what, IntUnaryOperator q) {
        Asides.told(what, Asides.among(mode, 1, 6, NEAR), rules -> rules.q[which] = q);
        Asides.told(what + ", three planes", Asides.among(mode, 3, 6, NEAR), rules -> rules.q[which] = q);
    }

    private static void neighbours(int mode) {
        Expect.sentence("Values", "T, TL and TR are 0 in the slice's first row", () ->
                Asides.told("as in the slice above", Asides.among(mode, 1, 4, FAR), r -> r.looksAboveTheSlice = true));
        Expect.sentence("Values", "L is T at x = 0", () ->
                Asides.told("0", Asides.among(mode, 1, 3, FAR), rules -> rules.leftIsNone = true));
        Expect.sentence("Values", "TL is T at x = 0", () ->
                Asides.told("0", Asides.among(mode, 1, 3, FAR), rules -> rules.aboveLeftIsNone = true));
        Expect.sentence("Values", "TR is T at the last x", () ->
                Asides.told("0", Asides.among(mode, 1, 3, FAR), rules -> rules.aboveRightIsNone = true));
        Expect.sentence("Values", "the middle one of L, T and L + T - TL", () -> {
            Asides.told("L + T - TL itself", Asides.among(mode, 1, 3, FAR), rules -> rules.guessIsNotClamped = true);
            int[] some = {0, 4, 5, 100, 255};
            for (int k = 0; k < 625; k++) {
                int[][] rows = {{some[k % 5], some[k / 5 % 5]}, {some[k / 25 % 5], some[k / 125]}};
                Asides.both("four places, " + k, Asides.picture(mode, 1, rows));
            }
        });
    }

    private static void rows(int mode) {
        Expect.sentence("Values", "slice i of n has the rows from i * height / n (rounded down) on", () -> {
            for (int height = 1; height <= 6; height++) {
                for (int slices = 1; slices <= Math.min(3, height); slices++) {
                    for (int width = 1; width <= 6; width += 5) {
                        int[][] rows = new int[height][width];
                        for (int k = 0; k < height * width; k++) {
                            rows[k / width][k % width] = k * 97 + k / 3 & 255;
                        }
                        Asides.both(height + " rows in " + slices, Asides.picture(mode, slices, rows));
                    }
                }
            }
            Asides.told("rounded up", Asides.among(mode, 1, 6, NEAR), rules -> rules.rowsRoundUp = 1);
        });
        Expect.sentence("Modes", "a context is new in each slice", () ->
                Asides.told("it goes on", Asides.among(mode, 1, 6, NEAR), rules -> rules.contextsGoOn = true));
    }
}
