import java.lang.reflect.Constructor;
import java.lang.reflect.Field;
import java.lang.reflect.Method;
import java.lang.reflect.Modifier;
import java.util.Set;
import java.util.TreeSet;

/** Each promise of the document by itself: ordinary inputs, the edges it names, wrong inputs. */
public final class PromisesTest {
    private static final int NONE = NameNumbers.NONE;
    private static final int[] WILD = {
        Integer.MIN_VALUE, Integer.MIN_VALUE + 1, -3001, -2, -1, 0, 1, 2, 3, 57, 58, 59, 499, 500, 501,
        1999, 2000, 2001, 3000, 3001, 3002, 20000, 20001, 1114111, 1114112,
        Integer.MAX_VALUE - 1, Integer.MAX_VALUE
    };

    private static String promise = "";
    private static int checks = 0;
    private static int wrong = 0;

    private static void due(String call, long got, long want) {
        checks++;
        if (got != want) {
            wrong++;
            System.out.println(promise + ": " + call + " answered " + got + ", due is " + want);
        }
    }

    private static void due(String call, boolean got, boolean want) {
        due(call, got ? 1 : 0, want ? 1 : 0);
    }

    /** Puts the text's characters behind the draft. */
    private static void type(NameNumbers x, String text) {
        text.codePoints().forEach(c -> x.write(c, 0));
    }

    private static int numberOf(NameNumbers x, String text) {
        type(x, text);
        return x.number();
    }

    private static NameNumbers with(String... texts) {
        NameNumbers x = new NameNumbers();
        for (String text : texts) {
            numberOf(x, text);
        }
        return x;
    }

    /** The greatest n that cut takes, which changes nothing, as the draft is all of it then. */
    private static int draftLength(NameNumbers x) {
        int n = 2000;
        while (n > 0 && x.cut(n) == NONE) {
            n--;
        }
        return n;
    }

    private static void dueRow(NameNumbers x, int k, int... characters) {
        due("length(" + k + ")", x.length(k), characters.length);
        for (int i = 0; i < characters.length; i++) {
            due("sign(" + k + ", " + i + ")", x.sign(k, i), characters[i]);
        }
    }

    private static void face() {
        promise = "the face";
        due("NONE", NameNumbers.NONE, -1);
        due("final", Modifier.isFinal(NameNumbers.class.getModifiers()), true);
        Set<String> members = new TreeSet<>();
        for (Method m : NameNumbers.class.getDeclaredMethods()) {
            if (!Modifier.isPrivate(m.getModifiers())) {
                members.add(m.toString());
            }
        }
        for (Field f : NameNumbers.class.getDeclaredFields()) {
            if (!Modifier.isPrivate(f.getModifiers())) {
                members.add(f.toString());
            }
        }
        for (Constructor<?> c : NameNumbers.class.getDeclaredConstructors()) {
            members.add(c.toString());
        }
        String p = "public int NameNumbers.";
        Set<String> wanted = new TreeSet<>(Set.of(
            "public static final int NameNumbers.NONE", "public NameNumbers()",
            p + "write(int,int)", p + "cut(int)", p + "number()", "public boolean NameNumbers.isKnown()",
            p + "take(int)", p + "rows()", p + "length(int)", p + "sign(int,int)", p + "compare(int,int)",
            p + "colon(int)", p + "part(int,int,int)", p + "next(int)", p + "clear()"));
        due("members " + members, members.equals(wanted), true);
    }

    private static void promise1() {
        promise = "1 a new object";
        NameNumbers x = new NameNumbers();
        due("rows()", x.rows(), 0);
        due("isKnown()", x.isKnown(), false);
        due("cut(0)", x.cut(0), 0);
        due("cut(1)", x.cut(1), NONE);
        due("length(0)", x.length(0), NONE);
        due("length(1)", x.length(1), NONE);
        due("next(1)", x.next(1), NONE);
        due("clear()", x.clear(), 0);
        NameNumbers other = new NameNumbers();
        numberOf(x, "a");
        type(x, "b");
        due("rows() of another", other.rows(), 0);
        due("cut(1) of another", other.cut(1), NONE);
        due("number() first", other.number(), 1);
    }

    private static void promise2() {
        promise = "2 write";
        NameNumbers x = new NameNumbers();
        due("write(97, 0)", x.write(97, 0), 1);
        due("write(10, 3)", x.write(10, 3), 5);
        due("write(0, 0)", x.write(0, 0), 6);
        due("write(1114111, 0)", x.write(1114111, 0), 7);
        due("write(1114110, 1)", x.write(1114110, 1), 9);
        due("write(1114111, 1)", x.write(1114111, 1), NONE);
        due("write(1114112, 0)", x.write(1114112, 0), NONE);
        due("write(1113612, 500)", x.write(1113612, 500), NONE);
        due("write(-1, 0)", x.write(-1, 0), NONE);
        due("write(-1, 5)", x.write(-1, 5), NONE);
        due("write(5, -1)", x.write(5, -1), NONE);
        due("write(5, 501)", x.write(5, 501), NONE);
        due("write(max, 500)", x.write(Integer.MAX_VALUE, 500), NONE);
        due("write(0, max)", x.write(0, Integer.MAX_VALUE), NONE);
        due("write(0, min)", x.write(0, Integer.MIN_VALUE), NONE);
        due("write(min, 0)", x.write(Integer.MIN_VALUE, 0), NONE);
        due("number()", x.number(), 1);
        dueRow(x, 1, 97, 10, 11, 12, 13, 0, 1114111, 1114110, 1114111);
        due("write(1113611, 500)", x.write(1113611, 500), 501);
        due("write(0, 500)", x.write(0, 500), 1002);
        due("write(0, 500)", x.write(0, 500), 1503);
        due("write(0, 497)", x.write(0, 497), NONE);
        due("write(0, 496)", x.write(0, 496), 2000);
        due("write(0, 0)", x.write(0, 0), NONE);
        due("number()", x.number(), 2);
        due("length(2)", x.length(2), 2000);
        due("sign(2, 500)", x.sign(2, 500), 1114111);
        due("sign(2, 501)", x.sign(2, 501), 0);
        due("sign(2, 1999)", x.sign(2, 1999), 496);
    }

    private static void promise3() {
        promise = "3 cut";
        NameNumbers x = new NameNumbers();
        x.write(97, 4);
        due("cut(6)", x.cut(6), NONE);
        due("cut(-1)", x.cut(-1), NONE);
        due("cut(min)", x.cut(Integer.MIN_VALUE), NONE);
        due("cut(max)", x.cut(Integer.MAX_VALUE), NONE);
        due("cut(5)", x.cut(5), 5);
        due("cut(3)", x.cut(3), 5);
        due("cut(4)", x.cut(4), NONE);
        due("write(120, 0)", x.write(120, 0), 4);
        due("number()", x.number(), 1);
        dueRow(x, 1, 97, 98, 99, 120);
        x.write(97, 4);
        due("cut(0)", x.cut(0), 5);
        due("cut(0) again", x.cut(0), 0);
        due("number()", x.number(), 2);
        due("length(2)", x.length(2), 0);
    }

    private static void promise4() {
        promise = "4 number";
        NameNumbers x = new NameNumbers();
        due("abc", numberOf(x, "abc"), 1);
        due("draft is empty", x.cut(0), 0);
        due("abd", numberOf(x, "abd"), 2);
        due("empty", x.number(), 3);
        due("ab", numberOf(x, "ab"), 4);
        due("abc again", numberOf(x, "abc"), 1);
        due("draft is empty", x.cut(0), 0);
        due("empty again", x.number(), 3);
        due("abcd", numberOf(x, "abcd"), 5);
        due("bc", numberOf(x, "bc"), 6);
        due("rows()", x.rows(), 6);
        fullOfCharacters();
        fullOfRows();
    }

    /** Ten rows of 2000 characters each, the first characters of which are 0 to 9. */
    private static NameNumbers full() {
        NameNumbers x = new NameNumbers();
        for (int i = 0; i < 10; i++) {
            writeLong(x, i, 2000);
            due("number() of long row", x.number(), i + 1);
        }
        return x;
    }

    private static void writeLong(NameNumbers x, int first, int length) {
        x.write(first, 0);
        int left = length - 1;
        while (left > 0) {
            int now = Math.min(left, 501);
            x.write(1000, now - 1);
            left -= now;
        }
    }

    private static void fullOfCharacters() {
        NameNumbers x = full();
        due("empty row when full", x.number(), 11);
        x.write(97, 0);
        due("isKnown()", x.isKnown(), false);
        due("number() when full", x.number(), NONE);
        due("draft stays", x.cut(1), 1);
        due("rows()", x.rows(), 11);
        x.cut(0);
        writeLong(x, 4, 2000);
        due("known when full", x.number(), 5);
        due("draft is empty", x.cut(0), 0);
        due("empty row again", x.number(), 11);
        x.clear();
        due("one after clear", numberOf(x, "a"), 1);

        NameNumbers y = new NameNumbers();
        for (int i = 0; i < 9; i++) {
            writeLong(y, i, 2000);
            y.number();
        }
        writeLong(y, 9, 1998);
        due("1998 more", y.number(), 10);
        y.write(97, 2);
        due("three when two are left", y.number(), NONE);
        y.cut(2);
        due("two when two are left", y.number(), 11);
        y.write(97, 0);
        due("one when none is left", y.number(), NONE);
        due("draft stays", y.cut(0), 1);
    }

    /** More than the 512 promised calls: that nothing is thrown there, and that the limit is kept. */
    private static void fullOfRows() {
        NameNumbers x = new NameNumbers();
        for (int i = 0; i < 3000; i++) {
            x.write(i, 0);
            due("number() of row " + i, x.number(), i + 1);
        }
        due("empty row as 3001st", x.number(), NONE);
        x.write(5000, 0);
        due("3001st row", x.number(), NONE);
        due("draft stays", x.cut(0), 1);
        x.write(2999, 0);
        due("known one", x.number(), 3000);
        due("part known", x.part(3000, 0, 1), 3000);
        due("part not known", x.part(3000, 0, 0), NONE);
        due("next(3000)", x.next(3000), 0);
        due("next(2999)", x.next(2999), 3000);
        due("clear()", x.clear(), 3000);
        due("empty row after clear", x.number(), 1);
    }

    private static void promise5() {
        promise = "5 isKnown";
        NameNumbers x = with("abc");
        due("empty", x.isKnown(), false);
        type(x, "ab");
        due("ab", x.isKnown(), false);
        type(x, "c");
        due("abc", x.isKnown(), true);
        due("abc again", x.isKnown(), true);
        due("draft stays", x.cut(3), 3);
        due("no row comes", x.rows(), 1);
        type(x, "d");
        due("abcd", x.isKnown(), false);
        x.cut(0);
        type(x, "abd");
        due("abd", x.isKnown(), false);
        x.cut(0);
        type(x, "bbc");
        due("bbc", x.isKnown(), false);
        x.cut(0);
        x.number();
        due("empty with a number", x.isKnown(), true);
        x.clear();
        due("empty after clear", x.isKnown(), false);
    }

    private static void promise6() {
        promise = "6 take";
        NameNumbers x = with("abc", "", "de");
        due("take(3)", x.take(3), 2);
        due("take(1)", x.take(1), 5);
        due("take(2)", x.take(2), 5);
        due("take(0)", x.take(0), NONE);
        due("take(4)", x.take(4), NONE);
        due("take(-1)", x.take(-1), NONE);
        due("take(min)", x.take(Integer.MIN_VALUE), NONE);
        due("take(max)", x.take(Integer.MAX_VALUE), NONE);
        due("number()", x.number(), 4);
        dueRow(x, 4, 'd', 'e', 'a', 'b', 'c');
        dueRow(x, 1, 'a', 'b', 'c');
        writeLong(x, 7, 1998);
        due("take(1) beyond 2000", x.take(1), NONE);
        due("take(3) up to 2000", x.take(3), 2000);
        due("take(3) when full", x.take(3), NONE);
        due("take(2) when full", x.take(2), 2000);
        due("number()", x.number(), 5);
        due("sign(5, 1999)", x.sign(5, 1999), 'e');
    }

    private static void promise7() {
        promise = "7 rows";
        NameNumbers x = new NameNumbers();
        type(x, "a");
        due("a draft is no row", x.rows(), 0);
        x.number();
        due("one", x.rows(), 1);
        numberOf(x, "a");
        due("the same", x.rows(), 1);
        numberOf(x, "ab");
        due("two", x.rows(), 2);
        x.part(2, 1, 1);
        due("a part", x.rows(), 3);
        x.part(2, 0, 1);
        due("a part that is known", x.rows(), 3);
        x.clear();
        due("after clear", x.rows(), 0);
    }

    private static void promise8() {
        promise = "8 length";
        NameNumbers x = with("abc", "", "z");
        due("length(1)", x.length(1), 3);
        due("length(2)", x.length(2), 0);
        due("length(3)", x.length(3), 1);
        for (int k : WILD) {
            if (k < 1 || k > 3) {
                due("length(" + k + ")", x.length(k), NONE);
            }
        }
        x.clear();
        due("length(1) after clear", x.length(1), NONE);
    }

    private static void promise9() {
        promise = "9 sign";
        NameNumbers x = with("abc", "", "z");
        dueRow(x, 1, 'a', 'b', 'c');
        dueRow(x, 2);
        dueRow(x, 3, 'z');
        due("sign(2, 0)", x.sign(2, 0), NONE);
        due("sign(1, 3)", x.sign(1, 3), NONE);
        for (int w : WILD) {
            if (w < 1 || w > 3) {
                due("sign(" + w + ", 0)", x.sign(w, 0), NONE);
            }
            if (w < 0 || w > 2) {
                due("sign(1, " + w + ")", x.sign(1, w), NONE);
            }
        }
        x.clear();
        due("sign(1, 0) after clear", x.sign(1, 0), NONE);
    }

    private static void promise10() {
        promise = "10 compare";
        NameNumbers x = with("b", "", "a", "ab", "ba", "abc", "aZ", "\0", new String(Character.toChars(0x10FFFF)), "\uFFFF");
        int[] rising = {2, 8, 3, 7, 4, 6, 1, 5, 10, 9};
        for (int i = 0; i < rising.length; i++) {
            for (int j = 0; j < rising.length; j++) {
                int want = i < j ? -1 : i > j ? 1 : 0;
                due("compare(" + rising[i] + ", " + rising[j] + ")", x.compare(rising[i], rising[j]), want);
            }
        }
        for (int w : WILD) {
            if (w < 1 || w > 10) {
                due("compare(" + w + ", 1)", x.compare(w, 1), -2);
                due("compare(1, " + w + ")", x.compare(1, w), -2);
                due("compare(" + w + ", " + w + ")", x.compare(w, w), -2);
            }
        }
        due("compare(11, 11)", x.compare(11, 11), -2);
    }

    private static void promise11() {
        promise = "11 colon";
        String[] texts = {"", "abc", "a:b", "ab:c", ":", ":a", "a:", "a:1", "a::", "a::b", "a:b:c", ":a:b", "a:b:", "1:_x", "a:-"};
        int[] wanted = {0, 0, 1, 2, NONE, NONE, NONE, NONE, NONE, NONE, NONE, NONE, NONE, 1, NONE};
        NameNumbers x = with(texts);
        for (int i = 0; i < texts.length; i++) {
            due("colon of '" + texts[i] + "'", x.colon(i + 1), wanted[i]);
        }
        for (int w : WILD) {
            if (w < 1 || w > texts.length) {
                due("colon(" + w + ")", x.colon(w), -2);
            }
        }
        writeLong(x, 7, 1998);
        type(x, ":a");
        int k = x.number();
        due("colon near the end of a long row", x.colon(k), 1998);
        // the row behind must not be looked at
        NameNumbers y = with("a:", "b", "c", "d:e");
        due("colon at the end, a name start in the next row", y.colon(1), NONE);
        due("no colon, one in the next row", y.colon(3), 0);
        due("colon of the last row", y.colon(4), 1);
        NameNumbers z = with("a", ":b");
        due("colon at 0, a row before it", z.colon(2), NONE);
        nameStarts();
    }

    /** Every character behind a colon; the stretches are written as XML's NameStartChar has them. */
    private static void nameStarts() {
        NameNumbers x = null;
        for (int c = 0; c <= 0x10FFFF; c++) {
            if (c % 100 == 0) {
                x = with("a:");
            }
            x.take(1);
            x.write(c, 0);
            int got = x.colon(x.number());
            due("colon of a row with " + c + " behind it", got, isStart(c) ? 1 : NONE);
        }
    }

    /** Without the colon itself: a second one in the row is answered NONE whatever it is. */
    private static boolean isStart(int c) {
        return c >= 'A' && c <= 'Z' || c == '_' || c >= 'a' && c <= 'z'
            || c >= 0xC0 && c <= 0xD6 || c >= 0xD8 && c <= 0xF6 || c >= 0xF8 && c <= 0x2FF
            || c >= 0x370 && c <= 0x37D || c >= 0x37F && c <= 0x1FFF || c >= 0x200C && c <= 0x200D
            || c >= 0x2070 && c <= 0x218F || c >= 0x2C00 && c <= 0x2FEF || c >= 0x3001 && c <= 0xD7FF
            || c >= 0xF900 && c <= 0xFDCF || c >= 0xFDF0 && c <= 0xFFFD || c >= 0x10000 && c <= 0xEFFFF;
    }

    private static void promise12() {
        promise = "12 part";
        NameNumbers x = with("abcab", "zz");
        type(x, "dr");
        due("whole", x.part(1, 0, 5), 1);
        due("ab", x.part(1, 0, 2), 3);
        due("ab at the end", x.part(1, 3, 2), 3);
        due("none at the end", x.part(1, 5, 0), 4);
        due("none at the start", x.part(2, 0, 0), 4);
        due("none of none", x.part(4, 0, 0), 4);
        due("cab", x.part(1, 2, 3), 5);
        dueRow(x, 5, 'c', 'a', 'b');
        due("too far", x.part(1, 3, 3), NONE);
        due("beyond", x.part(1, 6, 0), NONE);
        due("beyond, back", x.part(1, 6, -1), NONE);
        due("of none", x.part(4, 0, 1), NONE);
        due("below", x.part(1, -1, 2), NONE);
        due("n below 0", x.part(1, 2, -1), NONE);
        due("wrap", x.part(1, 1, Integer.MAX_VALUE), NONE);
        due("wrap at i", x.part(1, Integer.MAX_VALUE, 1), NONE);
        due("wrap at both", x.part(1, Integer.MAX_VALUE, Integer.MAX_VALUE), NONE);
        due("min", x.part(1, Integer.MIN_VALUE, Integer.MIN_VALUE), NONE);
        for (int w : WILD) {
            if (w < 1 || w > 5) {
                due("part(" + w + ", 0, 0)", x.part(w, 0, 0), NONE);
            }
        }
        due("rows()", x.rows(), 5);
        due("draft stays", x.number(), 6);
        dueRow(x, 6, 'd', 'r');
        partWhenFull();
    }

    private static void partWhenFull() {
        NameNumbers x = full();
        type(x, "q");
        due("part when full", x.part(1, 0, 1), NONE);
        due("rows()", x.rows(), 10);
        due("whole row when full", x.part(10, 0, 2000), 10);
        due("no character when full", x.part(10, 2000, 0), 11);
        due("draft stays", x.cut(1), 1);
        NameNumbers y = new NameNumbers();
        for (int i = 0; i < 9; i++) {
            writeLong(y, i, 2000);
            y.number();
        }
        writeLong(y, 9, 1990);
        y.number();
        due("11 when 10 are left", y.part(3, 5, 11), NONE);
        due("10 when 10 are left", y.part(3, 5, 10), 11);
        due("sign(11, 0)", y.sign(11, 0), y.sign(3, 5));
        due("sign(11, 9)", y.sign(11, 9), y.sign(3, 14));
    }

    private static void promise13() {
        promise = "13 next";
        NameNumbers x = with("b", "", "a", "ab", "ba", "abc", "aZ");
        int[] rising = {2, 3, 7, 4, 6, 1, 5};
        for (int i = 0; i < rising.length; i++) {
            int want = i + 1 < rising.length ? rising[i + 1] : 0;
            due("next(" + rising[i] + ")", x.next(rising[i]), want);
        }
        for (int w : WILD) {
            if (w < 1 || w > 7) {
                due("next(" + w + ")", x.next(w), NONE);
            }
        }
        due("next(8)", x.next(8), NONE);
        x.clear();
        due("next(1) after clear", x.next(1), NONE);
        numberOf(x, "a");
        due("next(1) alone", x.next(1), 0);
    }

    private static void promise14() {
        promise = "14 clear";
        NameNumbers x = with("abc", "", "z");
        type(x, "dr");
        due("clear()", x.clear(), 3);
        due("clear() again", x.clear(), 0);
        due("rows()", x.rows(), 0);
        due("take(1)", x.take(1), NONE);
        due("part(1, 0, 0)", x.part(1, 0, 0), NONE);
        due("compare(1, 1)", x.compare(1, 1), -2);
        due("isKnown()", x.isKnown(), false);
        due("draft stays", x.number(), 1);
        dueRow(x, 1, 'd', 'r');
        due("z", numberOf(x, "z"), 2);
        due("abc", numberOf(x, "abc"), 3);
        dueRow(x, 3, 'a', 'b', 'c');
        due("clear()", x.clear(), 3);
        due("all characters are free again", full().clear(), 10);
    }

    /** What is refused leaves every row and the draft alone. */
    private static void refusals() {
        promise = "a refused call changes nothing";
        NameNumbers x = with("ab", "c:d");
        x.write(120, 1);
        for (int w : WILD) {
            if (w < 0 || w > 1114111) {
                x.write(w, 0);
            }
            if (w < 0 || w > 500) {
                x.write(97, w);
            }
            if (w < 0 || w > 2) {
                x.cut(w);
            }
            if (w < 1 || w > 2) {
                x.take(w);
                x.next(w);
                x.part(w, 0, 1);
            }
            if (w < 0 || w > 2) {
                x.part(1, w, 1);
                x.part(1, 1, w);
            }
        }
        due("rows()", x.rows(), 2);
        dueRow(x, 1, 'a', 'b');
        dueRow(x, 2, 'c', ':', 'd');
        due("draft", draftLength(x), 2);
        due("number()", x.number(), 3);
        dueRow(x, 3, 'x', 'y');
    }

    public static void main(String[] args) {
        face();
        promise1();
        promise2();
        promise3();
        promise4();
        promise5();
        promise6();
        promise7();
        promise8();
        promise9();
        promise10();
        promise11();
        promise12();
        promise13();
        promise14();
        refusals();
        System.out.println(checks - wrong + " passed, " + wrong + " failed");
        if (wrong != 0) {
            System.exit(1);
        }
    }
}
