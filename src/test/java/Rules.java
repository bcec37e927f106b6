import java.util.function.IntUnaryOperator;

/**
 * The numbers and choices in the document's words on coding. A test turns one of them a step aside
 * and finds pictures that are written otherwise then: so it is sure that it looks at the edge.
 */
final class Rules {
    // Values
    IntUnaryOperator quarter = sum -> Math.floorDiv(sum, 4);
    int[] modulus = {256, 512, 512};
    int[] leastIsHigher = new int[3];
    int[] set = {0, 1, 1};
    IntUnaryOperator[] q = {Rules::q, Rules::q, Rules::q};
    int turnedBelow = 0;
    boolean[] leastIsTurned = new boolean[3];
    boolean guessIsNotClamped = false;

    // The edges of a slice
    int rowsRoundUp = 0;
    boolean looksAboveTheSlice = false;
    boolean leftIsNone = false;
    boolean aboveLeftIsNone = false;
    boolean aboveRightIsNone = false;
    boolean contextsGoOn = false;

    // Mode 0
    int firstSum = 4;
    int firstCount = 1;
    int sumMustBeBelow = 0;
    int mostZeros = 12;
    int wholeBits = 9;
    int fullCount = 16;
    int halfCount = 8;
    int halfRoundsUp = 0;
    String lastBits = "0000000";

    // Mode 1
    int firstState = 128;
    int firstRange = 65280;
    int stateTop = 256;
    int growShift = 4;
    int fallShift = 4;
    int leastRange = 256;
    int mostPower = 8;
    int firstDigitState = 10;
    int signState = 18;
    int moreDigits = 2;

    // Elements
    int mostInOneByte = 126;

    static int q(int d) {
        return d < 0 ? -q(-d) : d == 0 ? 0 : d < 5 ? 1 : 2;
    }
}
