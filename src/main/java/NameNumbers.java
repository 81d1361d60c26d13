/**
 * Numbers for rows of characters: the same row always has the same number; rows are compared, and
 * parted at a colon.
 */
public final class NameNumbers {
    public static final int NONE = -1;

    /** What compare and colon answer for a row that is not there: they need -1 for something else. */
    private static final int NO_SUCH_ROW = -2;

    private static final int GREATEST_CHARACTER = 1114111;
    private static final int MOST_MORE = 500;
    private static final int MOST_IN_DRAFT = 2000;
    private static final int MOST_ROWS = 3000;
    private static final int MOST_IN_ROWS = 20000;
    private static final int COLON = 58;

    /** The name starts, as pairs: the first and the last character of each stretch, rising. */
    private static final int[] NAME_STARTS = {
        58, 58, 65, 90, 95, 95, 97, 122, 192, 214, 216, 246, 248, 767, 880, 893,
        895, 8191, 8204, 8205, 8304, 8591, 11264, 12271, 12289, 55295,
        63744, 64975, 65008, 65533, 65536, 983039
    };

    private final int[] draft;
    private int draftLength;

    /** The characters of all rows with numbers, row 1 first, without gaps. */
    private final int[] characters;

    /**
     * Row k lies in characters from starts[k] up to, but without, starts[k + 1]; so the entry behind
     * the last row tells how many characters are in use. Entry 0 is not used.
     */
    private final int[] starts;

    private int rowCount;

    public NameNumbers() {
        draft = new int[MOST_IN_DRAFT];
        draftLength = 0;
        characters = new int[MOST_IN_ROWS];
        starts = new int[MOST_ROWS + 2];
        rowCount = 0;
    }

    public int write(int c, int many) {
        if (many < 0 || many > MOST_MORE) {
            return NONE;
        }
        if (c < 0 || c > GREATEST_CHARACTER - many) {
            return NONE;
        }
        if (many + 1 > MOST_IN_DRAFT - draftLength) {
            return NONE;
        }
        for (int i = 0; i <= many; i++) {
            draft[draftLength + i] = c + i;
        }
        draftLength += many + 1;
        return draftLength;
    }

    public int cut(int n) {
        if (n < 0 || n > draftLength) {
            return NONE;
        }
        int before = draftLength;
        draftLength = n;
        return before;
    }

    public int number() {
        int k = numberOf(draft, 0, draftLength);
        if (k != NONE) {
            draftLength = 0;
        }
        return k;
    }

    public boolean isKnown() {
        return find(draft, 0, draftLength) != NONE;
    }

    public int take(int k) {
        if (!isRow(k)) {
            return NONE;
        }
        int n = lengthOf(k);
        if (n > MOST_IN_DRAFT - draftLength) {
            return NONE;
        }
        System.arraycopy(characters, starts[k], draft, draftLength, n);
        draftLength += n;
        return draftLength;
    }

    public int rows() {
        return rowCount;
    }

    public int length(int k) {
        return isRow(k) ? lengthOf(k) : NONE;
    }

    public int sign(int k, int i) {
        if (!isRow(k) || i < 0 || i >= lengthOf(k)) {
            return NONE;
        }
        return characters[starts[k] + i];
    }

    public int compare(int a, int b) {
        if (!isRow(a) || !isRow(b)) {
            return NO_SUCH_ROW;
        }
        return order(a, b);
    }

    public int colon(int k) {
        if (!isRow(k)) {
            return NO_SUCH_ROW;
        }
        int start = starts[k];
        int end = starts[k + 1];
        int place = findColon(start, end);
        if (place == end) {
            return 0;
        }
        boolean isOnly = findColon(place + 1, end) == end;
        boolean parts = place > start && place + 1 < end && isNameStart(characters[place + 1]);
        return isOnly && parts ? place - start : NONE;
    }

    public int part(int k, int i, int n) {
        if (!isRow(k)) {
            return NONE;
        }
        int length = lengthOf(k);
        // n is held against what is left behind i, as i + n could wrap around
        if (i < 0 || i > length || n < 0 || n > length - i) {
            return NONE;
        }
        return numberOf(characters, starts[k] + i, n);
    }

    public int next(int k) {
        if (!isRow(k)) {
            return NONE;
        }
        int least = 0;
        for (int other = 1; other <= rowCount; other++) {
            if (order(other, k) > 0 && (least == 0 || order(other, least) < 0)) {
                least = other;
            }
        }
        return least;
    }

    public int clear() {
        int before = rowCount;
        rowCount = 0;
        return before;
    }

    private boolean isRow(int k) {
        return k >= 1 && k <= rowCount;
    }

    private int lengthOf(int k) {
        return starts[k + 1] - starts[k];
    }

    /** The number of the n characters in source from start on, a new one if need be, or NONE. */
    private int numberOf(int[] source, int start, int n) {
        int k = find(source, start, n);
        if (k != NONE) {
            return k;
        }
        return hasRoomFor(n) ? add(source, start, n) : NONE;
    }

    private int find(int[] source, int start, int n) {
        for (int k = 1; k <= rowCount; k++) {
            if (lengthOf(k) == n && isSame(source, start, k)) {
                return k;
            }
        }
        return NONE;
    }

    /** Whether source has from start on what row k has; source reaches as far as the row is long. */
    private boolean isSame(int[] source, int start, int k) {
        int n = lengthOf(k);
        for (int i = 0; i < n; i++) {
            if (source[start + i] != characters[starts[k] + i]) {
                return false;
            }
        }
        return true;
    }

    private boolean hasRoomFor(int n) {
        return rowCount < MOST_ROWS && n <= MOST_IN_ROWS - starts[rowCount + 1];
    }

    private int add(int[] source, int start, int n) {
        int free = starts[rowCount + 1];
        System.arraycopy(source, start, characters, free, n);
        rowCount++;
        starts[rowCount + 1] = free + n;
        return rowCount;
    }

    /** -1, 0 or 1 as row a is less than, is, or is greater than row b. */
    private int order(int a, int b) {
        int both = Math.min(lengthOf(a), lengthOf(b));
        for (int i = 0; i < both; i++) {
            int ofA = characters[starts[a] + i];
            int ofB = characters[starts[b] + i];
            if (ofA != ofB) {
                return ofA < ofB ? -1 : 1;
            }
        }
        if (lengthOf(a) == lengthOf(b)) {
            return 0;
        }
        return lengthOf(a) < lengthOf(b) ? -1 : 1;
    }

    /** Where the first colon lies in characters from start on, or end when there is none before it. */
    private int findColon(int start, int end) {
        for (int i = start; i < end; i++) {
            if (characters[i] == COLON) {
                return i;
            }
        }
        return end;
    }

    private static boolean isNameStart(int c) {
        for (int i = 0; i + 1 < NAME_STARTS.length; i += 2) {
            if (c >= NAME_STARTS[i] && c <= NAME_STARTS[i + 1]) {
                return true;
            }
        }
        return false;
    }
}
