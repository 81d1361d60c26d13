import java.io.IOException;
import java.lang.annotation.Retention;
import java.lang.annotation.RetentionPolicy;
import java.lang.reflect.Constructor;
import java.lang.reflect.Field;
import java.lang.reflect.InvocationTargetException;
import java.lang.reflect.Method;
import java.lang.reflect.Modifier;
import java.nio.file.Files;
import java.nio.file.Path;
import java.util.ArrayList;
import java.util.Comparator;
import java.util.LinkedHashMap;
import java.util.List;
import java.util.Map;
import java.util.Set;
import java.util.TreeSet;
import java.util.function.Supplier;
import java.util.function.ToIntFunction;

/**
 * A test of its own for each sentence of the document. Each names its sentence by Says, and the words
 * are held against ../shared/DOC.md: none that does not stand there, and none there without a test.
 *
 * <p>No test but those that need 3000 rows makes more than 512 calls on an object.
 */
public final class SentencesTest {
    /** What a test is for: a section of the document, and words that stand in it. */
    @Retention(RetentionPolicy.RUNTIME)
    private @interface Says {
        String in();

        String words();
    }

    private static final int NONE = NameNumbers.NONE;
    private static final int NO_SUCH_ROW = -2;
    private static final int MIN = Integer.MIN_VALUE;
    private static final int MAX = Integer.MAX_VALUE;
    private static final int GREATEST = 1114111;

    private static final List<String> faults = new ArrayList<>();

    // ---- What it is ----

    @Says(in = "What it is", words = "Numbers for rows of characters: the same row always has the same number")
    private static void theSameRowHasTheSameNumberHoweverItIsAskedFor() {
        NameNumbers x = with("xaby", "ab");
        due("written again", numberOf(x, "ab"), 2);
        due("as a part", x.part(1, 1, 2), 2);
        x.take(2);
        due("taken", x.number(), 2);
        numberOf(x, "a");
        x.take(3);
        type(x, "bz");
        x.cut(2);
        due("taken, written and cut", x.number(), 2);
        due("rows()", x.rows(), 3);
    }

    @Says(in = "What it is", words = "rows are compared, and parted at a colon.")
    private static void aRowIsPartedAtItsColon() {
        NameNumbers x = with("pre:local");
        int at = x.colon(1);
        due("colon(1)", at, 3);
        int prefix = x.part(1, 0, at);
        int local = x.part(1, at + 1, x.length(1) - at - 1);
        dueRow(x, prefix, "pre");
        dueRow(x, local, "local");
        due("compare", x.compare(prefix, local), 1);
    }

    @Says(in = "What it is", words = "An object is used for at most 512 calls after it has been made; "
        + "what later calls answer is free.")
    private static void the512thCallIsAnsweredWithAsManyRowsAsCanBe() {
        NameNumbers x = new NameNumbers();
        due("call 1", x.write(0, 500), 501);
        due("call 2", x.number(), 1);
        for (int i = 0; i < 501; i++) {
            due("call " + (i + 3), x.part(1, i, 1), i + 2);
        }
        for (int i = 0; i < 8; i++) {
            due("call " + (i + 504), x.part(1, i, 2), i + 503);
        }
        due("call 512", x.next(1), 3);
    }

    @Says(in = "What it is", words = "An object is used for at most 512 calls after it has been made")
    private static void the512thCallIsAnsweredWhenAllIsFull() {
        NameNumbers x = full();
        due("call 61", x.number(), 11);
        for (int i = 62; i <= 65; i++) {
            x.write(1000, 499);
        }
        for (int i = 66; i < 512; i++) {
            due("call " + i, x.number(), NONE);
        }
        due("call 512", x.cut(2000), 2000);
    }

    // ---- The public face ----

    @Says(in = "The public face", words = "public static final int NONE = -1;")
    private static void noneIsMinus1() {
        due("NONE", NameNumbers.NONE, -1);
    }

    @Says(in = "The public face", words = "public final class NameNumbers {")
    private static void theFaceHasTheDocumentsMembersAndNoOther() {
        Set<String> members = new TreeSet<>();
        for (Method m : NameNumbers.class.getDeclaredMethods()) {
            if (!Modifier.isPrivate(m.getModifiers())) {
                members.add(m.toString());
            }
        }
        for (Field f : NameNumbers.class.getDeclaredFields()) {
            if (!Modifier.isPrivate(f.getModifiers())) {
                members.add(f.toString());
            }
        }
        for (Constructor<?> c : NameNumbers.class.getDeclaredConstructors()) {
            members.add(c.toString());
        }
        String p = "public int NameNumbers.";
        Set<String> wanted = new TreeSet<>(Set.of(
            "public static final int NameNumbers.NONE", "public NameNumbers()",
            p + "write(int,int)", p + "cut(int)", p + "number()", "public boolean NameNumbers.isKnown()",
            p + "take(int)", p + "rows()", p + "length(int)", p + "sign(int,int)", p + "compare(int,int)",
            p + "colon(int)", p + "part(int,int,int)", p + "next(int)", p + "clear()"));
        due("members", members.toString(), wanted.toString());
        due("public", Modifier.isPublic(NameNumbers.class.getModifiers()), true);
        due("final", Modifier.isFinal(NameNumbers.class.getModifiers()), true);
    }

    // ---- Terms ----

    @Says(in = "Terms", words = "A CHARACTER is a number 0 .. 1114111.")
    private static void theLeastAndTheGreatestCharacterAreCharacters() {
        NameNumbers x = new NameNumbers();
        due("write(0, 0)", x.write(0, 0), 1);
        due("write(1114111, 0)", x.write(GREATEST, 0), 2);
        x.number();
        dueCharacters(x, 1, 0, GREATEST);
    }

    @Says(in = "Terms", words = "A CHARACTER is a number 0 .. 1114111.")
    private static void oneBelowAndOneAboveAreNoCharacters() {
        NameNumbers x = new NameNumbers();
        due("write(-1, 0)", x.write(-1, 0), NONE);
        due("write(1114112, 0)", x.write(GREATEST + 1, 0), NONE);
        due("draft", x.cut(0), 0);
    }

    @Says(in = "Terms", words = "A CHARACTER is a number 0 .. 1114111.")
    private static void halvesOfPairsAndNonCharactersOfUnicodeAreCharactersHere() {
        NameNumbers x = new NameNumbers();
        int[] some = {0xD800, 0xDBFF, 0xDC00, 0xDFFF, 0xFFFE, 0xFFFF, 0x10000, 0x1FFFF};
        for (int i = 0; i < some.length; i++) {
            due("write(" + some[i] + ", 0)", x.write(some[i], 0), i + 1);
        }
        x.number();
        dueCharacters(x, 1, some);
    }

    @Says(in = "Terms", words = "A ROW is characters, one behind the other, perhaps none.")
    private static void theRowOfNoCharacterIsARowLikeOthers() {
        NameNumbers x = with("a", "");
        due("rows()", x.rows(), 2);
        due("length(2)", x.length(2), 0);
        due("sign(2, 0)", x.sign(2, 0), NONE);
        due("compare(2, 2)", x.compare(2, 2), 0);
        due("colon(2)", x.colon(2), 0);
        due("part(2, 0, 0)", x.part(2, 0, 0), 2);
        due("take(2)", x.take(2), 0);
        due("next(2)", x.next(2), 1);
        due("number()", x.number(), 2);
    }

    @Says(in = "Terms", words = "A ROW is characters, one behind the other, perhaps none.")
    private static void rowsOfTheSameCharactersInAnotherPlaceAreOthers() {
        NameNumbers x = with("ab", "ba", "aab", "abb", "aba");
        due("rows()", x.rows(), 5);
        due("ab", numberOf(x, "ab"), 1);
        due("aba", numberOf(x, "aba"), 5);
    }

    @Says(in = "Terms", words = "Rows get NUMBERS from 1 on, as they are asked for first.")
    private static void theFirstNumberIs1AndNoneIsLeftOut() {
        NameNumbers x = new NameNumbers();
        due("c", numberOf(x, "c"), 1);
        due("ab", numberOf(x, "ab"), 2);
        due("c again", numberOf(x, "c"), 1);
        due("b, as a part", x.part(2, 1, 1), 3);
        due("a part that is refused", x.part(2, 1, 2), NONE);
        due("d", numberOf(x, "d"), 4);
        due("no character", x.number(), 5);
    }

    @Says(in = "Terms", words = "THE DRAFT is a row that is written character by character.")
    private static void theDraftKeepsItsCharactersInTheirOrder() {
        NameNumbers x = new NameNumbers();
        x.write('b', 0);
        x.write('a', 0);
        x.write('c', 0);
        x.number();
        dueRow(x, 1, "bac");
    }

    @Says(in = "Terms", words = "Rows are ORDERED by their first characters that differ")
    private static void onlyTheFirstCharactersThatDifferCount() {
        dueLess("ab", "b");
        dueLess("abzz", "acaa");
        dueLess("azzz", "b");
        dueLess("a", "b");
        dueLess("xxxxxa", "xxxxxb");
        dueLess("Z", "a");
    }

    @Says(in = "Terms", words = "Rows are ORDERED by their first characters that differ")
    private static void charactersAreOrderedAsNumbersNotAsHalvesOfPairs() {
        dueLess(text(0), text(1));
        dueLess(text(0xFFFF), text(0x10000));
        dueLess(text(0xE000), text(GREATEST));
        dueLess(text(0), text(GREATEST));
        dueLess(text(127), text(128));
        dueLess(text(255), text(256));
        dueLess(text(32767), text(32768));
    }

    @Says(in = "Terms", words = "if one begins the other, the shorter one is less.")
    private static void aBeginningIsLess() {
        dueLess("a", "ab");
        dueLess("a", "aa");
        dueLess("", "a");
        dueLess("", text(0));
        dueLess("a", text('a', 0));
    }

    @Says(in = "Terms", words = "if one begins the other, the shorter one is less.")
    private static void aBeginningOf1999Of2000CharactersIsLess() {
        NameNumbers x = new NameNumbers();
        writeLong(x, 7, 2000);
        x.number();
        x.part(1, 0, 1999);
        due("compare(2, 1)", x.compare(2, 1), -1);
        due("compare(1, 2)", x.compare(1, 2), 1);
    }

    @Says(in = "Terms", words = "NAME STARTS: A-Z, a-z, : and _")
    private static void lettersAndLowLinesAreNameStartsTheirNeighboursAreNot() {
        dueStretch('A', 'Z');
        dueStretch('a', 'z');
        dueStretch('_', '_');
    }

    @Says(in = "Terms", words = ": and _, 192 .. 214, 216 .. 246, 248 .. 767, 880 .. 893, 895 .. 8191, 8204, 8205, "
        + "8304 .. 8591, 11264 .. 12271, 12289 .. 55295, 63744 .. 64975, 65008 .. 65533, 65536 .. 983039.")
    private static void theEndsOfEachStretchAreNameStartsTheirNeighboursAreNot() {
        dueStretch(192, 214);
        dueStretch(216, 246);
        dueStretch(248, 767);
        dueStretch(880, 893);
        dueStretch(895, 8191);
        dueStretch(8204, 8205);
        dueStretch(8304, 8591);
        dueStretch(11264, 12271);
        dueStretch(12289, 55295);
        dueStretch(63744, 64975);
        dueStretch(65008, 65533);
        dueStretch(65536, 983039);
    }

    @Says(in = "Terms", words = "NAME STARTS: A-Z, a-z, : and _")
    private static void theLeastAndTheGreatestCharacterAreNoNameStarts() {
        NameNumbers x = with("a:");
        due("0", colonWith(x, 0), NONE);
        due("1114111", colonWith(x, GREATEST), NONE);
    }

    /** So that : is a name start can't be seen from outside. */
    @Says(in = "Terms", words = "NAME STARTS: A-Z, a-z, : and _")
    private static void aColonRightBehindAColonIsASecondOne() {
        NameNumbers x = with("a::", "a::b");
        due("a::", x.colon(1), NONE);
        due("a::b", x.colon(2), NONE);
    }

    @Says(in = "Terms", words = "NAME STARTS: A-Z, a-z, : and _, 192 .. 214,")
    private static void everyCharacterIsANameStartOrNot() {
        NameNumbers x = null;
        for (int c = 0; c <= GREATEST; c++) {
            if (c % 100 == 0) {
                x = with("a:");
            }
            due("colon with " + c + " behind it", colonWith(x, c), isStart(c) ? 1 : NONE);
        }
    }

    @Says(in = "Terms", words = "The COLON of a row: 0 if it has no : (58)")
    private static void theColonOfARowWithoutOneIs0() {
        NameNumbers x = with("", "a", "abc", text(57, 59), text('a', 57, 'b'), text('a', 59, 'b'), text(0, GREATEST));
        for (int k = 1; k <= 7; k++) {
            due("colon(" + k + ")", x.colon(k), 0);
        }
    }

    @Says(in = "Terms", words = "The COLON of a row: 0 if it has no : (58)")
    private static void theColonsOfTheRowsBesideAreNotSeen() {
        NameNumbers x = with("a:", "b", ":c");
        due("colon(2)", x.colon(2), 0);
    }

    @Says(in = "Terms", words = "the place (from 0 on) of the only one,")
    private static void thePlaceIsCountedFrom0() {
        NameNumbers x = with("a:b", "ab:c", "abc:defg");
        due("a:b", x.colon(1), 1);
        due("ab:c", x.colon(2), 2);
        due("abc:defg", x.colon(3), 3);
    }

    @Says(in = "Terms", words = "the place (from 0 on) of the only one,")
    private static void theLastPlaceThatAColonCanHaveIs1998() {
        NameNumbers x = new NameNumbers();
        writeLong(x, 7, 1998);
        type(x, ":a");
        due("length", x.length(x.number()), 2000);
        due("colon(1)", x.colon(1), 1998);
    }

    @Says(in = "Terms", words = "the place (from 0 on) of the only one,")
    private static void oneOfTwoColonsIsNotTheOnlyOne() {
        NameNumbers x = with("a:b:c", "a:b:", ":a:b", "a::b", "a:bcdefg:h", "a:b:c:d", "::");
        for (int k = 1; k <= 7; k++) {
            due("colon(" + k + ")", x.colon(k), NONE);
        }
    }

    @Says(in = "Terms", words = "if something stands before it")
    private static void whatStandsBeforeTheColonNeedBeNoNameStart() {
        NameNumbers x = with("1:a", "-:a", text(0, 58, 'a'), text(GREATEST, 58, 'a'));
        for (int k = 1; k <= 4; k++) {
            due("colon(" + k + ")", x.colon(k), 1);
        }
    }

    @Says(in = "Terms", words = "if something stands before it")
    private static void whatTheRowBeforeHasDoesNotStandBeforeTheColon() {
        NameNumbers x = with("a", ":b");
        due("colon(2)", x.colon(2), NONE);
    }

    @Says(in = "Terms", words = "and a name start right behind it;")
    private static void whatIsNoNameStartRightBehindTheColonIsNotEnough() {
        NameNumbers x = with("a:1", "a:-b", "a:1b", "a: b");
        for (int k = 1; k <= 4; k++) {
            due("colon(" + k + ")", x.colon(k), NONE);
        }
    }

    @Says(in = "Terms", words = "and a name start right behind it;")
    private static void whatStandsFurtherBehindDoesNotCount() {
        NameNumbers x = with("a:b1", "a:_-");
        due("colon(1)", x.colon(1), 1);
        due("colon(2)", x.colon(2), 1);
    }

    @Says(in = "Terms", words = "and a name start right behind it;")
    private static void behindAColonAtTheEndStandsNothingOfTheNextRow() {
        NameNumbers x = with("a:", "b");
        due("colon(1)", x.colon(1), NONE);
        due("colon at the end of the last row", x.colon(numberOf(x, "c:")), NONE);
    }

    @Says(in = "Terms", words = "and a name start right behind it;")
    private static void behindAColonAtTheEndStandsNothingOfAnEarlierTime() {
        NameNumbers x = with("a:b");
        x.clear();
        numberOf(x, "a:");
        due("colon(1)", x.colon(1), NONE);
    }

    @Says(in = "Terms", words = "and a name start right behind it;")
    private static void aColonAtTheVeryEndOfAFullStoreHasNothingBehindIt() {
        NameNumbers x = almostFull(2);
        due("a:", numberOf(x, "a:"), 11);
        due("colon(11)", x.colon(11), NONE);
    }

    @Says(in = "Terms", words = "NONE otherwise (so of one at 0).")
    private static void aColonAt0IsNone() {
        NameNumbers x = with(":", ":a", ":1", ":ab");
        for (int k = 1; k <= 4; k++) {
            due("colon(" + k + ")", x.colon(k), NONE);
        }
    }

    @Says(in = "Terms", words = "A call that is refused changes nothing.")
    private static void aRefusedWriteChangesNothing() {
        Supplier<NameNumbers> some = () -> drafted("xy", "ab", "c:d");
        refused("write(-1, 0)", some, x -> x.write(-1, 0), NONE);
        refused("write(-1, 5)", some, x -> x.write(-1, 5), NONE);
        refused("write(1114112, 0)", some, x -> x.write(GREATEST + 1, 0), NONE);
        refused("write(1114110, 2)", some, x -> x.write(GREATEST - 1, 2), NONE);
        refused("write(97, -1)", some, x -> x.write(97, -1), NONE);
        refused("write(97, 501)", some, x -> x.write(97, 501), NONE);
        Supplier<NameNumbers> longDraft = () -> longDrafted(1998);
        refused("write(97, 2) behind 1998", longDraft, x -> x.write(97, 2), NONE);
    }

    @Says(in = "Terms", words = "A call that is refused changes nothing.")
    private static void aRefusedCutChangesNothing() {
        Supplier<NameNumbers> some = () -> drafted("xy", "ab", "c:d");
        for (int n : new int[] {MIN, -1, 3, 2000, 2001, MAX}) {
            refused("cut(" + n + ")", some, x -> x.cut(n), NONE);
        }
    }

    @Says(in = "Terms", words = "A call that is refused changes nothing.")
    private static void aRefusedNumberChangesNothing() {
        refused("number() when full", () -> {
            NameNumbers x = full();
            type(x, "xy");
            return x;
        }, NameNumbers::number, NONE);
        NameNumbers y = almostFull(2);
        type(y, "abc");
        due("number() of 3 when 2 are left", y.number(), NONE);
        y.cut(2);
        due("number() of 2 when 2 are left", y.number(), 11);
    }

    @Says(in = "Terms", words = "A call that is refused changes nothing.")
    private static void aRefusedTakeChangesNothing() {
        Supplier<NameNumbers> some = () -> drafted("xy", "ab", "c:d");
        for (int k : notNumbers(2)) {
            refused("take(" + k + ")", some, x -> x.take(k), NONE);
        }
        refused("take(1) of 3 behind 1998", () -> longDrafted(1998), x -> x.take(1), NONE);
    }

    @Says(in = "Terms", words = "A call that is refused changes nothing.")
    private static void aRefusedPartChangesNothing() {
        Supplier<NameNumbers> some = () -> drafted("xy", "ab", "c:d");
        for (int k : notNumbers(2)) {
            refused("part(" + k + ", 0, 1)", some, x -> x.part(k, 0, 1), NONE);
        }
        for (int wrong : new int[] {MIN, -1, 4, 2001, MAX}) {
            refused("part(2, " + wrong + ", 0)", some, x -> x.part(2, wrong, 0), NONE);
            refused("part(2, 0, " + wrong + ")", some, x -> x.part(2, 0, wrong), NONE);
        }
        refused("part(1, 0, 1) when full", () -> full(), x -> x.part(1, 0, 1), NONE);
        NameNumbers y = almostFull(2);
        due("part of 3 when 2 are left", y.part(1, 0, 3), NONE);
        due("part of 2 when 2 are left", y.part(1, 0, 2), 11);
    }

    @Says(in = "Terms", words = "A call that is refused changes nothing.")
    private static void aRefusedQuestionChangesNothing() {
        Supplier<NameNumbers> some = () -> drafted("xy", "ab", "c:d");
        for (int k : notNumbers(2)) {
            refused("length(" + k + ")", some, x -> x.length(k), NONE);
            refused("sign(" + k + ", 0)", some, x -> x.sign(k, 0), NONE);
            refused("compare(" + k + ", 1)", some, x -> x.compare(k, 1), NO_SUCH_ROW);
            refused("compare(1, " + k + ")", some, x -> x.compare(1, k), NO_SUCH_ROW);
            refused("colon(" + k + ")", some, x -> x.colon(k), NO_SUCH_ROW);
            refused("next(" + k + ")", some, x -> x.next(k), NONE);
        }
        refused("sign(1, 2)", some, x -> x.sign(1, 2), NONE);
        refused("sign(1, -1)", some, x -> x.sign(1, -1), NONE);
    }

    // ---- Promise 1 ----

    @Says(in = "Promise 1", words = "No row has a number")
    private static void aNewObjectHasNoRow() {
        NameNumbers x = new NameNumbers();
        due("rows()", x.rows(), 0);
        dueNoRow(x, 1);
        dueNoRow(x, 0);
        due("isKnown()", x.isKnown(), false);
        due("clear()", x.clear(), 0);
        due("number()", x.number(), 1);
    }

    @Says(in = "Promise 1", words = "the draft is empty.")
    private static void aNewObjectHasAnEmptyDraft() {
        due("cut(1)", new NameNumbers().cut(1), NONE);
        due("cut(0)", new NameNumbers().cut(0), 0);
        due("write(97, 0)", new NameNumbers().write(97, 0), 1);
        NameNumbers x = new NameNumbers();
        due("length(1)", x.length(x.number()), 0);
    }

    @Says(in = "Promise 1", words = "No row has a number; the draft is empty.")
    private static void aNewObjectHasNothingOfAnother() {
        NameNumbers x = drafted("b", "a");
        NameNumbers y = new NameNumbers();
        due("rows()", y.rows(), 0);
        due("cut(1)", y.cut(1), NONE);
        type(y, "c");
        y.number();
        dueRow(y, 1, "c");
        dueRow(x, 1, "a");
        x.number();
        dueRow(x, 2, "b");
    }

    // ---- Promise 2 ----

    @Says(in = "Promise 2", words = "Characters come to the end of the draft: c, and so many")
    private static void whatIsWrittenComesBehindWhatIsThere() {
        NameNumbers x = new NameNumbers();
        x.write('x', 0);
        x.write('a', 2);
        x.write('b', 1);
        x.number();
        dueRow(x, 1, "xabcbc");
    }

    @Says(in = "Promise 2", words = "(0 .. 500) more,")
    private static void theLeastManyIs0() {
        NameNumbers x = new NameNumbers();
        due("write(97, 0)", x.write(97, 0), 1);
        x.number();
        dueRow(x, 1, "a");
    }

    @Says(in = "Promise 2", words = "(0 .. 500) more,")
    private static void theGreatestManyIs500() {
        NameNumbers x = new NameNumbers();
        due("write(0, 499)", x.write(0, 499), 500);
        x.cut(0);
        due("write(7, 500)", x.write(7, 500), 501);
        x.number();
        due("length(1)", x.length(1), 501);
        due("sign(1, 0)", x.sign(1, 0), 7);
        due("sign(1, 500)", x.sign(1, 500), 507);
    }

    @Says(in = "Promise 2", words = "each greater by one than that before.")
    private static void eachIsGreaterByOne() {
        NameNumbers x = new NameNumbers();
        x.write(1000, 400);
        x.number();
        due("length(1)", x.length(1), 401);
        for (int i = 0; i <= 400; i++) {
            due("sign(1, " + i + ")", x.sign(1, i), 1000 + i);
        }
    }

    @Says(in = "Promise 2", words = "each greater by one than that before.")
    private static void theLastOfThemMayBeTheGreatestCharacter() {
        NameNumbers x = new NameNumbers();
        due("write(1114110, 1)", x.write(GREATEST - 1, 1), 2);
        due("write(1113611, 500)", x.write(GREATEST - 500, 500), 503);
        x.number();
        due("sign(1, 1)", x.sign(1, 1), GREATEST);
        due("sign(1, 502)", x.sign(1, 502), GREATEST);
    }

    @Says(in = "Promise 2", words = "Answers how many the draft has (many and 1 more)")
    private static void writeAnswersTheWholeDraftsLength() {
        NameNumbers x = new NameNumbers();
        due("write(97, 2)", x.write(97, 2), 3);
        due("write(97, 0)", x.write(97, 0), 4);
        due("write(97, 9)", x.write(97, 9), 14);
        x.cut(1);
        due("write(97, 0) after cut(1)", x.write(97, 0), 2);
        x.number();
        due("write(97, 1) after number()", x.write(97, 1), 2);
    }

    @Says(in = "Promise 2", words = "NONE, and none comes, when one is none,")
    private static void writeIsRefusedWhenTheFirstIsBelow0() {
        for (int c : new int[] {-1, -2, MIN + 1, MIN}) {
            refusedWrite(c, 0);
            refusedWrite(c, 500);
        }
        refusedWrite(-3, 2);
    }

    @Says(in = "Promise 2", words = "NONE, and none comes, when one is none,")
    private static void writeIsRefusedWhenTheFirstIsAboveTheGreatest() {
        refusedWrite(GREATEST + 1, 0);
        refusedWrite(GREATEST + 1, 500);
        refusedWrite(MAX, 0);
    }

    @Says(in = "Promise 2", words = "NONE, and none comes, when one is none,")
    private static void writeIsRefusedWhenOnlyTheLastIsAboveTheGreatest() {
        refusedWrite(GREATEST, 1);
        refusedWrite(GREATEST - 1, 2);
        refusedWrite(GREATEST - 499, 500);
    }

    @Says(in = "Promise 2", words = "NONE, and none comes, when one is none,")
    private static void writeIsRefusedWhenTheSumWouldWrapAround() {
        refusedWrite(MAX, 1);
        refusedWrite(MAX, 500);
        refusedWrite(MAX - 499, 500);
        refusedWrite(MAX - 500, 500);
    }

    @Says(in = "Promise 2", words = "many is not so,")
    private static void writeIsRefusedWhenManyIsBelow0() {
        for (int many : new int[] {-1, -2, MIN + 1, MIN}) {
            refusedWrite(97, many);
            refusedWrite(0, many);
            refusedWrite(GREATEST, many);
            refusedWrite(GREATEST + 1, many);
        }
    }

    @Says(in = "Promise 2", words = "many is not so,")
    private static void writeIsRefusedWhenManyIsAbove500() {
        for (int many : new int[] {501, 502, 1000, 1999, 2000, MAX - 1, MAX}) {
            refusedWrite(97, many);
            refusedWrite(0, many);
        }
    }

    @Says(in = "Promise 2", words = "many is not so,")
    private static void writeIsRefusedWhenBothAreWrongAndWouldMakeUpForEachOther() {
        refusedWrite(-5, 501);
        refusedWrite(GREATEST + 1, -1);
        refusedWrite(MIN, MIN);
        refusedWrite(MAX, MIN);
        refusedWrite(MIN, MAX);
        refusedWrite(MAX, MAX);
    }

    @Says(in = "Promise 2", words = "or there would be more than 2000.")
    private static void theDraftMayHave2000ByOneWrite() {
        NameNumbers x = longDrafted(1499);
        due("write(0, 500)", x.write(0, 500), 2000);
        x.number();
        due("length(2)", x.length(2), 2000);
        due("sign(2, 1999)", x.sign(2, 1999), 500);
    }

    @Says(in = "Promise 2", words = "or there would be more than 2000.")
    private static void theDraftMayHave2000ByOneCharacter() {
        NameNumbers x = longDrafted(1999);
        due("write(5, 0)", x.write(5, 0), 2000);
        x.number();
        due("sign(2, 1999)", x.sign(2, 1999), 5);
    }

    @Says(in = "Promise 2", words = "or there would be more than 2000.")
    private static void writeIsRefusedBeyond2000AndNotEvenWhatFitsComes() {
        refused("write(0, 500) behind 1500", () -> longDrafted(1500), x -> x.write(0, 500), NONE);
        refused("write(0, 1) behind 1999", () -> longDrafted(1999), x -> x.write(0, 1), NONE);
        refused("write(0, 0) behind 2000", () -> longDrafted(2000), x -> x.write(0, 0), NONE);
        refused("write(0, 500) behind 2000", () -> longDrafted(2000), x -> x.write(0, 500), NONE);
    }

    @Says(in = "Promise 2", words = "or there would be more than 2000.")
    private static void aShorterWriteFitsAfterOneThatWasRefused() {
        NameNumbers x = longDrafted(1998);
        due("write(97, 2)", x.write(97, 2), NONE);
        due("write(97, 1)", x.write(97, 1), 2000);
        due("write(97, 0)", x.write(97, 0), NONE);
        due("cut(1999)", x.cut(1999), 2000);
        due("write(97, 0)", x.write(97, 0), 2000);
    }

    // ---- Promise 3 ----

    @Says(in = "Promise 3", words = "The draft is its first n characters")
    private static void cutLeavesTheFirst() {
        NameNumbers x = drafted("abcde");
        due("cut(3)", x.cut(3), 5);
        due("write(120, 0)", x.write('x', 0), 4);
        x.number();
        dueRow(x, 1, "abcx");
    }

    @Says(in = "Promise 3", words = "The draft is its first n characters")
    private static void cutTo0LeavesNone() {
        NameNumbers x = drafted("abc");
        due("cut(0)", x.cut(0), 3);
        due("cut(0) again", x.cut(0), 0);
        due("length", x.length(x.number()), 0);
    }

    @Says(in = "Promise 3", words = "The draft is its first n characters")
    private static void cutTo1LeavesOne() {
        NameNumbers x = drafted("abc");
        due("cut(1)", x.cut(1), 3);
        x.number();
        dueRow(x, 1, "a");
    }

    @Says(in = "Promise 3", words = "(perhaps all).")
    private static void cutToAllLeavesAll() {
        NameNumbers x = drafted("abc");
        due("cut(3)", x.cut(3), 3);
        x.number();
        dueRow(x, 1, "abc");
        NameNumbers y = longDrafted(2000);
        due("cut(2000)", y.cut(2000), 2000);
        due("length", y.length(y.number()), 2000);
    }

    @Says(in = "Promise 3", words = "Answers how many it had")
    private static void cutAnswersWhatThereWasBefore() {
        NameNumbers x = drafted("abcde");
        due("cut(4)", x.cut(4), 5);
        due("cut(1)", x.cut(1), 4);
        due("cut(0)", x.cut(0), 1);
        due("cut(0)", x.cut(0), 0);
    }

    @Says(in = "Promise 3", words = "NONE when it has not so many,")
    private static void cutIsRefusedBeyondTheDraft() {
        for (int n : new int[] {4, 5, 2000, 2001, MAX - 1, MAX}) {
            refused("cut(" + n + ")", () -> drafted("abc"), x -> x.cut(n), NONE);
        }
        refused("cut(1) of none", () -> drafted(""), x -> x.cut(1), NONE);
        refused("cut(2001) of 2000", () -> longDrafted(2000), x -> x.cut(2001), NONE);
    }

    @Says(in = "Promise 3", words = "NONE when it has not so many,")
    private static void whatWasCutOffDoesNotComeBack() {
        NameNumbers x = drafted("abcde");
        x.cut(2);
        due("cut(3)", x.cut(3), NONE);
        due("cut(5)", x.cut(5), NONE);
        due("cut(2)", x.cut(2), 2);
    }

    @Says(in = "Promise 3", words = "or n is below 0.")
    private static void cutIsRefusedBelow0() {
        for (int n : new int[] {-1, -2, MIN + 1, MIN}) {
            refused("cut(" + n + ")", () -> drafted("abc"), x -> x.cut(n), NONE);
            refused("cut(" + n + ") of none", () -> drafted(""), x -> x.cut(n), NONE);
        }
    }

    // ---- Promise 4 ----

    @Says(in = "Promise 4", words = "The number of the draft")
    private static void theDraftGetsANumberAndKeepsIt() {
        NameNumbers x = new NameNumbers();
        due("abc", numberOf(x, "abc"), 1);
        due("abd", numberOf(x, "abd"), 2);
        due("ab", numberOf(x, "ab"), 3);
        due("abcd", numberOf(x, "abcd"), 4);
        due("bc", numberOf(x, "bc"), 5);
        due("abc again", numberOf(x, "abc"), 1);
        due("ab again", numberOf(x, "ab"), 3);
        dueRow(x, 1, "abc");
        dueRow(x, 5, "bc");
    }

    @Says(in = "Promise 4", words = "The number of the draft")
    private static void rowsOf2000ThatDifferAtTheirEndsAreTwo() {
        NameNumbers x = new NameNumbers();
        writeLong(x, 1, 2000);
        due("first", x.number(), 1);
        writeLong(x, 2, 2000);
        due("another first character", x.number(), 2);
        writeLong(x, 1, 1999);
        x.write(5, 0);
        due("another last character", x.number(), 3);
        writeLong(x, 1, 1999);
        due("one less", x.number(), 4);
        writeLong(x, 1, 2000);
        due("the first again", x.number(), 1);
    }

    @Says(in = "Promise 4", words = "(perhaps of no character),")
    private static void theEmptyDraftGetsANumber() {
        NameNumbers x = with("a");
        due("number()", x.number(), 2);
        due("number() again", x.number(), 2);
        due("length(2)", x.length(2), 0);
        due("number() of a", numberOf(x, "a"), 1);
    }

    @Says(in = "Promise 4", words = "which is empty then.")
    private static void theDraftIsEmptyAfterANewNumberAndAfterAKnownOne() {
        NameNumbers x = drafted("abc");
        due("number()", x.number(), 1);
        due("cut(1)", x.cut(1), NONE);
        due("cut(0)", x.cut(0), 0);
        type(x, "abc");
        due("number() again", x.number(), 1);
        due("cut(1)", x.cut(1), NONE);
        due("write(97, 0)", x.write(97, 0), 1);
    }

    @Says(in = "Promise 4", words = "NONE, and the draft stays,")
    private static void theDraftStaysWhenItsNumberIsRefused() {
        NameNumbers x = full();
        type(x, "xyz");
        due("number()", x.number(), NONE);
        due("number() again", x.number(), NONE);
        due("isKnown()", x.isKnown(), false);
        due("rows()", x.rows(), 10);
        due("write(97, 0)", x.write(97, 0), 4);
        x.clear();
        due("number() after clear()", x.number(), 1);
        dueRow(x, 1, "xyza");
    }

    /** More than 512 calls, as 3000 rows can't be had by fewer: the class keeps the limit all the same. */
    @Says(in = "Promise 4", words = "when it has none yet and there are 3000 rows,")
    private static void row3000GetsANumberRow3001GetsNone() {
        NameNumbers x = withRows(2999);
        x.write(2999, 0);
        due("number() of row 3000", x.number(), 3000);
        due("number() of no character", x.number(), NONE);
        x.write(5000, 0);
        due("number() of row 3001", x.number(), NONE);
        due("rows()", x.rows(), 3000);
        due("the draft stays", x.cut(0), 1);
        due("next(3000)", x.next(3000), 0);
        due("next(2999)", x.next(2999), 3000);
        dueNoRow(x, 3001);
    }

    @Says(in = "Promise 4", words = "or rows with numbers would have more than 20000 characters together with it")
    private static void rowsMayHave20000Characters() {
        NameNumbers x = almostFull(3);
        due("3 when 3 are left", numberOf(x, "abc"), 11);
        dueRow(x, 11, "abc");
        due("rows()", x.rows(), 11);
        due("rows of 2000 each", full().rows(), 10);
    }

    @Says(in = "Promise 4", words = "or rows with numbers would have more than 20000 characters together with it")
    private static void rowsMayNotHave20001Characters() {
        NameNumbers x = almostFull(2);
        due("3 when 2 are left", numberOf(x, "abc"), NONE);
        due("cut(2)", x.cut(2), 3);
        due("2 when 2 are left", x.number(), 11);
        due("1 when none is left", numberOf(x, "a"), NONE);
        due("cut(0)", x.cut(0), 1);
        NameNumbers y = almostFull(1);
        writeLong(y, 77, 2000);
        due("2000 when 1 is left", y.number(), NONE);
        due("cut(1)", y.cut(1), 2000);
        due("1 when 1 is left", y.number(), 11);
    }

    @Says(in = "Promise 4", words = "or rows with numbers would have more than 20000 characters together with it")
    private static void theRowOfNoCharacterFitsWhenAllIsFull() {
        NameNumbers x = full();
        due("number()", x.number(), 11);
        due("length(11)", x.length(11), 0);
        due("rows()", x.rows(), 11);
    }

    @Says(in = "Promise 4", words = "or rows with numbers would have more than 20000 characters together with it")
    private static void aRowThatIsAskedForTwiceCountsOnce() {
        NameNumbers x = new NameNumbers();
        for (int i = 0; i < 11; i++) {
            writeLong(x, 1, 2000);
            due("the same row", x.number(), 1);
        }
        for (int i = 2; i <= 10; i++) {
            writeLong(x, i, 2000);
            due("row " + i, x.number(), i);
        }
        due("one more", numberOf(x, "a"), NONE);
    }

    @Says(in = "Promise 4", words = "(one that has a number is told in any case).")
    private static void aKnownRowIsToldWhen20000AreThere() {
        NameNumbers x = full();
        for (int i = 0; i < 10; i++) {
            writeLong(x, i, 2000);
            due("row " + (i + 1), x.number(), i + 1);
            due("the draft is empty", x.cut(0), 0);
        }
        due("rows()", x.rows(), 10);
    }

    /** More than 512 calls, as 3000 rows can't be had by fewer. */
    @Says(in = "Promise 4", words = "(one that has a number is told in any case).")
    private static void aKnownRowIsToldWhen3000AreThere() {
        NameNumbers x = withRows(3000);
        x.write(0, 0);
        due("the first", x.number(), 1);
        x.write(2999, 0);
        due("the last", x.number(), 3000);
        due("the draft is empty", x.cut(0), 0);
    }

    // ---- Promise 5 ----

    @Says(in = "Promise 5", words = "Whether the draft has a number.")
    private static void theEmptyDraftIsKnownWhenItHasANumber() {
        NameNumbers x = with("a");
        due("before", x.isKnown(), false);
        x.number();
        due("after", x.isKnown(), true);
    }

    @Says(in = "Promise 5", words = "Whether the draft has a number.")
    private static void aBeginningOrAnEndOfARowIsNotKnownByIt() {
        NameNumbers x = with("abc");
        for (String text : new String[] {"", "a", "ab", "abcd", "bc", "abd", "bbc", "aabc", "abca"}) {
            type(x, text);
            due(text, x.isKnown(), false);
            x.cut(0);
        }
        type(x, "abc");
        due("abc", x.isKnown(), true);
    }

    @Says(in = "Promise 5", words = "Whether the draft has a number.")
    private static void rowsThatStandSideBySideAreNotOneRow() {
        NameNumbers x = with("ab", "cd");
        for (String text : new String[] {"abcd", "bc", "abc", "bcd"}) {
            type(x, text);
            due(text, x.isKnown(), false);
            x.cut(0);
        }
    }

    @Says(in = "Promise 5", words = "Whether the draft has a number.")
    private static void isKnownChangesNothing() {
        NameNumbers x = drafted("xy", "ab");
        due("xy", x.isKnown(), false);
        due("xy again", x.isKnown(), false);
        due("rows()", x.rows(), 1);
        due("number()", x.number(), 2);
        type(x, "ab");
        due("ab", x.isKnown(), true);
        due("cut(2)", x.cut(2), 2);
    }

    @Says(in = "Promise 5", words = "Whether the draft has a number.")
    private static void theFirstAndTheLastRowAreKnownWhenAllIsFull() {
        NameNumbers x = full();
        for (int i : new int[] {0, 9}) {
            writeLong(x, i, 2000);
            due("row " + (i + 1), x.isKnown(), true);
            x.cut(1999);
            due("one less", x.isKnown(), false);
            x.cut(0);
        }
        due("no character", x.isKnown(), false);
    }

    @Says(in = "Promise 5", words = "Whether the draft has a number.")
    private static void nothingIsKnownAfterClear() {
        NameNumbers x = with("", "ab");
        x.clear();
        due("no character", x.isKnown(), false);
        type(x, "ab");
        due("ab", x.isKnown(), false);
    }

    // ---- Promise 6 ----

    @Says(in = "Promise 6", words = "The row of a number comes to the end of the draft")
    private static void aRowIsTakenAndStays() {
        NameNumbers x = with("abc", "", "de");
        due("take(3)", x.take(3), 2);
        due("cut(2)", x.cut(2), 2);
        due("number()", x.number(), 3);
        dueRow(x, 1, "abc");
        dueRow(x, 3, "de");
    }

    @Says(in = "Promise 6", words = "The row of a number comes to the end of the draft")
    private static void aRowOf2000IsTakenWhole() {
        NameNumbers x = full();
        due("take(10)", x.take(10), 2000);
        due("number()", x.number(), 10);
        due("take(1)", x.take(1), 2000);
        due("number()", x.number(), 1);
    }

    @Says(in = "Promise 6", words = "(behind what is there).")
    private static void whatIsTakenComesBehindWhatIsThere() {
        NameNumbers x = drafted("xy", "abc", "d");
        due("take(1)", x.take(1), 5);
        due("take(2)", x.take(2), 6);
        due("take(1)", x.take(1), 9);
        due("write(122, 0)", x.write('z', 0), 10);
        x.number();
        dueRow(x, 3, "xyabcdabcz");
        dueRow(x, 1, "abc");
    }

    @Says(in = "Promise 6", words = "Answers how many the draft has")
    private static void takeAnswersTheWholeDraftsLength() {
        NameNumbers x = drafted("xy", "abc", "");
        due("take(2) of no character", x.take(2), 2);
        due("take(1)", x.take(1), 5);
        x.cut(0);
        due("take(2) into an empty draft", x.take(2), 0);
        due("take(1) into an empty draft", x.take(1), 3);
    }

    @Says(in = "Promise 6", words = "NONE when there is no such number,")
    private static void takeIsRefusedWithoutSuchANumber() {
        for (int k : notNumbers(2)) {
            refused("take(" + k + ")", () -> drafted("xy", "a", "b"), x -> x.take(k), NONE);
        }
        refused("take(1) of none", () -> drafted("xy"), x -> x.take(1), NONE);
    }

    @Says(in = "Promise 6", words = "or there would be more than 2000.")
    private static void takeFillsTheDraftTo2000() {
        NameNumbers x = longDrafted(1997);
        due("take(1) of 3 behind 1997", x.take(1), 2000);
        x.number();
        due("sign(2, 1996)", x.sign(2, 1996), 1000 + 1995 % 501);
        due("sign(2, 1997)", x.sign(2, 1997), 'a');
        due("sign(2, 1999)", x.sign(2, 1999), 'c');
    }

    @Says(in = "Promise 6", words = "or there would be more than 2000.")
    private static void takeIsRefusedBeyond2000() {
        refused("take(1) of 3 behind 1998", () -> longDrafted(1998), x -> x.take(1), NONE);
        refused("take(1) of 3 behind 2000", () -> longDrafted(2000), x -> x.take(1), NONE);
        NameNumbers x = full();
        x.write(97, 0);
        due("take(1) of 2000 behind 1", x.take(1), NONE);
        due("cut(0)", x.cut(0), 1);
        due("take(1) of 2000", x.take(1), 2000);
        due("take(1) of 2000 behind 2000", x.take(1), NONE);
    }

    @Says(in = "Promise 6", words = "or there would be more than 2000.")
    private static void theRowOfNoCharacterIsTakenIntoAFullDraft() {
        NameNumbers x = with("");
        writeLong(x, 7, 2000);
        due("take(1)", x.take(1), 2000);
    }

    // ---- Promise 7 ----

    @Says(in = "Promise 7", words = "How many rows have numbers.")
    private static void onlyRowsWithNumbersAreCounted() {
        NameNumbers x = new NameNumbers();
        due("none", x.rows(), 0);
        type(x, "a");
        due("a draft is none", x.rows(), 0);
        x.number();
        due("one", x.rows(), 1);
        x.number();
        due("one of no character", x.rows(), 2);
        x.take(1);
        due("a row that is taken", x.rows(), 2);
        x.cut(0);
        numberOf(x, "bc");
        x.part(3, 1, 1);
        due("a part", x.rows(), 4);
    }

    @Says(in = "Promise 7", words = "How many rows have numbers.")
    private static void aRowIsCountedOnce() {
        NameNumbers x = with("ab", "ab", "", "", "a");
        due("rows()", x.rows(), 3);
        x.part(1, 0, 1);
        x.part(1, 0, 2);
        x.part(1, 2, 0);
        due("rows() after parts that are known", x.rows(), 3);
    }

    @Says(in = "Promise 7", words = "How many rows have numbers.")
    private static void whatIsRefusedIsNotCounted() {
        NameNumbers x = full();
        numberOf(x, "a");
        x.part(1, 0, 1);
        due("rows()", x.rows(), 10);
        x.clear();
        due("rows() after clear()", x.rows(), 0);
    }

    // ---- Promise 8 ----

    @Says(in = "Promise 8", words = "How many characters row k has")
    private static void theShortestAndTheLongestRow() {
        NameNumbers x = with("", "a", "ab");
        writeLong(x, 7, 2000);
        x.number();
        due("length(1)", x.length(1), 0);
        due("length(2)", x.length(2), 1);
        due("length(3)", x.length(3), 2);
        due("length(4)", x.length(4), 2000);
    }

    @Says(in = "Promise 8", words = "NONE when there is none such.")
    private static void lengthIsRefusedWithoutSuchARow() {
        NameNumbers x = with("a", "b");
        for (int k : notNumbers(2)) {
            due("length(" + k + ")", x.length(k), NONE);
        }
        type(x, "c");
        due("length(3), a draft", x.length(3), NONE);
        x.clear();
        due("length(1) after clear()", x.length(1), NONE);
    }

    // ---- Promise 9 ----

    @Says(in = "Promise 9", words = "Character i of row k")
    private static void theFirstAndTheLastCharacter() {
        NameNumbers x = with("abc", "", "z", text(0, GREATEST));
        due("sign(1, 0)", x.sign(1, 0), 'a');
        due("sign(1, 1)", x.sign(1, 1), 'b');
        due("sign(1, 2)", x.sign(1, 2), 'c');
        due("sign(3, 0)", x.sign(3, 0), 'z');
        due("sign(4, 0)", x.sign(4, 0), 0);
        due("sign(4, 1)", x.sign(4, 1), GREATEST);
    }

    @Says(in = "Promise 9", words = "Character i of row k")
    private static void theLastCharacterOfAFullStore() {
        NameNumbers x = almostFull(1);
        numberOf(x, "z");
        due("sign(11, 0)", x.sign(11, 0), 'z');
        due("sign(11, 1)", x.sign(11, 1), NONE);
    }

    @Says(in = "Promise 9", words = "NONE when there is none such.")
    private static void signIsRefusedWithoutSuchARow() {
        NameNumbers x = with("a", "b");
        for (int k : notNumbers(2)) {
            due("sign(" + k + ", 0)", x.sign(k, 0), NONE);
        }
        x.clear();
        due("sign(1, 0) after clear()", x.sign(1, 0), NONE);
    }

    @Says(in = "Promise 9", words = "NONE when there is none such.")
    private static void signIsRefusedWithoutSuchACharacter() {
        NameNumbers x = with("pq", "abc", "", "xyz");
        for (int i : new int[] {3, 4, 2000, 20000, MAX - 2, MAX, -1, -2, MIN + 1, MIN}) {
            due("sign(2, " + i + ")", x.sign(2, i), NONE);
        }
        due("sign(3, 0) of no character", x.sign(3, 0), NONE);
        due("sign(3, -1) of no character", x.sign(3, -1), NONE);
        due("sign(4, 3), the last row", x.sign(4, 3), NONE);
    }

    // ---- Promise 10 ----

    @Says(in = "Promise 10", words = "-1, 0 or 1 when row a is less than, is (a and b the same), is greater than row b;")
    private static void everyPairOfRowsIsCompared() {
        NameNumbers x = with("b", "", "a", "ab", "ba", "abc", "aZ", text(0), text(GREATEST), text(0xFFFF));
        int[] rising = {2, 8, 3, 7, 4, 6, 1, 5, 10, 9};
        for (int i = 0; i < rising.length; i++) {
            for (int j = 0; j < rising.length; j++) {
                due("compare(" + rising[i] + ", " + rising[j] + ")",
                    x.compare(rising[i], rising[j]), Integer.compare(i, j));
            }
        }
    }

    @Says(in = "Promise 10", words = "-1, 0 or 1 when row a is less than, is (a and b the same), is greater than row b;")
    private static void neitherTheNumberNorTheLengthOfARowCounts() {
        NameNumbers x = with("b", "aaaa", "c", "abc");
        due("compare(1, 2)", x.compare(1, 2), 1);
        due("compare(2, 1)", x.compare(2, 1), -1);
        due("compare(3, 4)", x.compare(3, 4), 1);
        due("compare(4, 2)", x.compare(4, 2), 1);
    }

    @Says(in = "Promise 10", words = "-2 when there is none such.")
    private static void compareIsRefusedWhenOneOrBothAreNoRows() {
        NameNumbers x = with("a", "b");
        for (int k : notNumbers(2)) {
            due("compare(" + k + ", 1)", x.compare(k, 1), NO_SUCH_ROW);
            due("compare(1, " + k + ")", x.compare(1, k), NO_SUCH_ROW);
            due("compare(" + k + ", 2)", x.compare(k, 2), NO_SUCH_ROW);
            due("compare(2, " + k + ")", x.compare(2, k), NO_SUCH_ROW);
            due("compare(" + k + ", " + k + ")", x.compare(k, k), NO_SUCH_ROW);
        }
        x.clear();
        due("compare(1, 1) after clear()", x.compare(1, 1), NO_SUCH_ROW);
    }

    // ---- Promise 11 ----

    @Says(in = "Promise 11", words = "The colon of row k")
    private static void eachRowHasItsOwnColon() {
        NameNumbers x = with("ab:c", "abc", "a:b", ":a");
        due("colon(1)", x.colon(1), 2);
        due("colon(2)", x.colon(2), 0);
        due("colon(3)", x.colon(3), 1);
        due("colon(4)", x.colon(4), NONE);
        due("colon(1) again", x.colon(1), 2);
    }

    @Says(in = "Promise 11", words = "-2 when there is no such row.")
    private static void colonIsRefusedWithoutSuchARow() {
        NameNumbers x = with("a:b", "c:d");
        for (int k : notNumbers(2)) {
            due("colon(" + k + ")", x.colon(k), NO_SUCH_ROW);
        }
        x.clear();
        due("colon(1) after clear()", x.colon(1), NO_SUCH_ROW);
    }

    // ---- Promise 12 ----

    @Says(in = "Promise 12", words = "The number of n characters")
    private static void aPartThatIsKnownHasItsNumber() {
        NameNumbers x = with("abcab", "ab");
        due("at the start", x.part(1, 0, 2), 2);
        due("at the end", x.part(1, 3, 2), 2);
        due("all of it", x.part(1, 0, 5), 1);
        due("all of the other", x.part(2, 0, 2), 2);
        due("rows()", x.rows(), 2);
    }

    @Says(in = "Promise 12", words = "(perhaps none)")
    private static void aPartOfNoCharacterIsTheEmptyRowEvenAtTheEnd() {
        NameNumbers x = with("abc");
        due("behind the last", x.part(1, 3, 0), 2);
        due("length(2)", x.length(2), 0);
        due("at the start", x.part(1, 0, 0), 2);
        due("in the middle", x.part(1, 2, 0), 2);
        due("of no character", x.part(2, 0, 0), 2);
        due("number()", x.number(), 2);
    }

    @Says(in = "Promise 12", words = "of row k from character i on,")
    private static void aPartHasTheCharactersFromIOn() {
        NameNumbers x = with("zz", "abcde");
        dueRow(x, x.part(2, 0, 1), "a");
        dueRow(x, x.part(2, 4, 1), "e");
        dueRow(x, x.part(2, 1, 3), "bcd");
        dueRow(x, x.part(2, 1, 4), "bcde");
        dueRow(x, x.part(2, 0, 4), "abcd");
        dueRow(x, 2, "abcde");
    }

    @Says(in = "Promise 12", words = "of row k from character i on,")
    private static void aPartOfThe2000ThatLeavesOneOut() {
        NameNumbers x = new NameNumbers();
        writeLong(x, 7, 2000);
        x.number();
        due("without the first", x.part(1, 1, 1999), 2);
        due("without the last", x.part(1, 0, 1999), 3);
        due("length(2)", x.length(2), 1999);
        due("sign(2, 0)", x.sign(2, 0), x.sign(1, 1));
        due("sign(2, 1998)", x.sign(2, 1998), x.sign(1, 1999));
        due("sign(3, 0)", x.sign(3, 0), 7);
        due("sign(3, 1998)", x.sign(3, 1998), x.sign(1, 1998));
    }

    @Says(in = "Promise 12", words = "which it has then")
    private static void aPartGetsTheNextNumberAndKeepsIt() {
        NameNumbers x = with("abc", "x");
        due("b", x.part(1, 1, 1), 3);
        due("rows()", x.rows(), 3);
        due("b again", x.part(1, 1, 1), 3);
        due("b as a draft", numberOf(x, "b"), 3);
        due("c", x.part(1, 2, 1), 4);
    }

    @Says(in = "Promise 12", words = "(the draft stays)")
    private static void theDraftStaysBesideAPart() {
        NameNumbers x = drafted("dr", "abc");
        due("a new one", x.part(1, 0, 2), 2);
        due("a known one", x.part(1, 0, 2), 2);
        due("one that is refused", x.part(1, 0, 4), NONE);
        due("number()", x.number(), 3);
        dueRow(x, 3, "dr");
        type(x, "abc");
        x.part(1, 0, 3);
        due("a draft that is the part", x.cut(3), 3);
    }

    @Says(in = "Promise 12", words = "NONE when there is no such row")
    private static void partIsRefusedWithoutSuchARow() {
        for (int k : notNumbers(2)) {
            refused("part(" + k + ", 0, 0)", () -> drafted("xy", "a", "b"), x -> x.part(k, 0, 0), NONE);
            refused("part(" + k + ", 0, 1)", () -> drafted("xy", "a", "b"), x -> x.part(k, 0, 1), NONE);
        }
        NameNumbers y = with("a");
        y.clear();
        due("part(1, 0, 0) after clear()", y.part(1, 0, 0), NONE);
    }

    @Says(in = "Promise 12", words = "or part,")
    private static void partIsRefusedFromBelow0() {
        for (int i : new int[] {-1, -2, MIN + 1, MIN}) {
            refusedPart(i, 0);
            refusedPart(i, 1);
            refusedPart(i, 3);
            refusedPart(i, MAX);
        }
    }

    @Says(in = "Promise 12", words = "or part,")
    private static void partIsRefusedFromBeyondTheEnd() {
        for (int i : new int[] {4, 5, 2000, 20000, MAX}) {
            refusedPart(i, 0);
            refusedPart(i, 1);
            refusedPart(i, -1);
            refusedPart(i, 3 - i);
        }
    }

    @Says(in = "Promise 12", words = "or part,")
    private static void partIsRefusedWithLessThanNoCharacter() {
        for (int n : new int[] {-1, -2, MIN + 1, MIN}) {
            refusedPart(0, n);
            refusedPart(2, n);
            refusedPart(3, n);
        }
    }

    @Says(in = "Promise 12", words = "or part,")
    private static void partIsRefusedWithMoreThanStandThere() {
        refusedPart(0, 4);
        refusedPart(1, 3);
        refusedPart(2, 2);
        refusedPart(3, 1);
        refusedPart(0, 2000);
        refusedPart(0, 20001);
        NameNumbers y = with("", "a");
        due("part(1, 0, 1) of no character", y.part(1, 0, 1), NONE);
        due("part(1, 1, 0) of no character", y.part(1, 1, 0), NONE);
    }

    @Says(in = "Promise 12", words = "or part,")
    private static void partIsRefusedWhenTheSumWouldWrapAround() {
        refusedPart(0, MAX);
        refusedPart(1, MAX);
        refusedPart(3, MAX);
        refusedPart(MAX, 1);
        refusedPart(MAX, 3);
        refusedPart(MAX, MAX);
        refusedPart(MIN, MIN);
        refusedPart(MIN, MAX);
        refusedPart(MAX, MIN);
    }

    @Says(in = "Promise 12", words = "or it has no number and could get none, as for number().")
    private static void partIsRefusedBeyond20000Characters() {
        refused("part(1, 0, 1)", () -> {
            NameNumbers x = full();
            type(x, "q");
            return x;
        }, x -> x.part(1, 0, 1), NONE);
        NameNumbers y = almostFull(10);
        due("11 when 10 are left", y.part(3, 5, 11), NONE);
        due("10 when 10 are left", y.part(3, 5, 10), 11);
        due("sign(11, 0)", y.sign(11, 0), y.sign(3, 5));
        due("sign(11, 9)", y.sign(11, 9), y.sign(3, 14));
        due("1 when none is left", y.part(3, 0, 1), NONE);
    }

    @Says(in = "Promise 12", words = "or it has no number and could get none, as for number().")
    private static void aPartThatIsKnownOrEmptyIsToldWhen20000AreThere() {
        NameNumbers x = full();
        due("all of the last", x.part(10, 0, 2000), 10);
        due("all of the first", x.part(1, 0, 2000), 1);
        due("no character", x.part(10, 2000, 0), 11);
        due("no character again", x.part(1, 0, 0), 11);
        due("rows()", x.rows(), 11);
    }

    /** More than 512 calls, as 3000 rows can't be had by fewer. */
    @Says(in = "Promise 12", words = "or it has no number and could get none, as for number().")
    private static void aPartThatIsNotKnownIsRefusedWhen3000RowsAreThere() {
        NameNumbers x = withRows(2998);
        x.write(2998, 1);
        due("row 2999", x.number(), 2999);
        due("row 3000, a part", x.part(2999, 0, 1), 3000);
        due("row 3001, a part", x.part(2999, 1, 1), NONE);
        due("no character", x.part(2999, 0, 0), NONE);
        due("a known one", x.part(2999, 0, 1), 3000);
        due("rows()", x.rows(), 3000);
    }

    // ---- Promise 13 ----

    @Says(in = "Promise 13", words = "The number of the least row (of those with numbers, by their ORDER) "
        + "that is greater than row k;")
    private static void nextGoesThroughAllRowsInTheirOrder() {
        NameNumbers x = with("b", "", "a", "ab", "ba", "abc", "aZ", text(0), text(GREATEST), text(0xFFFF));
        int[] rising = {2, 8, 3, 7, 4, 6, 1, 5, 10, 9};
        for (int i = 0; i + 1 < rising.length; i++) {
            due("next(" + rising[i] + ")", x.next(rising[i]), rising[i + 1]);
        }
    }

    @Says(in = "Promise 13", words = "The number of the least row (of those with numbers, by their ORDER) "
        + "that is greater than row k;")
    private static void theDraftAndClearedRowsAreNotNext() {
        NameNumbers x = with("a", "b", "c");
        x.clear();
        numberOf(x, "a");
        numberOf(x, "d");
        type(x, "b");
        due("next(1)", x.next(1), 2);
        x.number();
        due("next(1) when b has a number", x.next(1), 3);
    }

    @Says(in = "Promise 13", words = "0 when there is none;")
    private static void theGreatestRowHasNoNext() {
        NameNumbers x = with("b", "a");
        due("next(1)", x.next(1), 0);
        due("next(2)", x.next(2), 1);
        numberOf(x, "ba");
        due("next(1) with ba", x.next(1), 3);
        due("next(3)", x.next(3), 0);
    }

    @Says(in = "Promise 13", words = "0 when there is none;")
    private static void theOnlyRowHasNoNext() {
        due("next(1)", with("a").next(1), 0);
        due("next(1) of no character", with("").next(1), 0);
    }

    @Says(in = "Promise 13", words = "NONE when there is no row k.")
    private static void nextIsRefusedWithoutSuchARow() {
        NameNumbers x = with("a", "b");
        for (int k : notNumbers(2)) {
            due("next(" + k + ")", x.next(k), NONE);
        }
        x.clear();
        due("next(1) after clear()", x.next(1), NONE);
    }

    // ---- Promise 14 ----

    @Says(in = "Promise 14", words = "No row has a number then")
    private static void noRowHasANumberAfterClear() {
        NameNumbers x = with("abc", "", "z");
        x.clear();
        due("rows()", x.rows(), 0);
        for (int k = 0; k <= 4; k++) {
            dueNoRow(x, k);
        }
        type(x, "abc");
        due("isKnown()", x.isKnown(), false);
    }

    @Says(in = "Promise 14", words = "No row has a number then")
    private static void all20000CharactersAreFreeAfterClear() {
        NameNumbers x = full();
        x.clear();
        for (int i = 0; i < 10; i++) {
            writeLong(x, i + 50, 2000);
            due("row " + (i + 1), x.number(), i + 1);
        }
        due("one more", numberOf(x, "a"), NONE);
        due("sign(1, 0)", x.sign(1, 0), 50);
        due("sign(10, 0)", x.sign(10, 0), 59);
    }

    /** More than 512 calls, as 3000 rows can't be had by fewer. */
    @Says(in = "Promise 14", words = "No row has a number then")
    private static void all3000RowsAreFreeAfterClear() {
        NameNumbers x = withRows(3000);
        due("clear()", x.clear(), 3000);
        for (int i = 0; i < 3000; i++) {
            x.write(7000 - i, 0);
            due("row " + (i + 1), x.number(), i + 1);
        }
        due("one more", x.number(), NONE);
    }

    @Says(in = "Promise 14", words = "(the next one gets 1);")
    private static void theNextRowGets1() {
        NameNumbers x = with("abc", "", "z");
        x.clear();
        due("z", numberOf(x, "z"), 1);
        due("abc", numberOf(x, "abc"), 2);
        due("no character", x.number(), 3);
        dueRow(x, 1, "z");
        dueRow(x, 2, "abc");
        dueRow(x, 3, "");
    }

    @Says(in = "Promise 14", words = "the draft stays.")
    private static void theDraftStaysAfterClear() {
        NameNumbers x = drafted("dr", "abc", "z");
        x.clear();
        due("cut(2)", x.cut(2), 2);
        due("write(120, 0)", x.write('x', 0), 3);
        due("number()", x.number(), 1);
        dueRow(x, 1, "drx");
    }

    @Says(in = "Promise 14", words = "the draft stays.")
    private static void whatWasTakenStaysInTheDraftAfterClear() {
        NameNumbers x = with("abc");
        x.take(1);
        x.clear();
        due("number()", x.number(), 1);
        dueRow(x, 1, "abc");
    }

    @Says(in = "Promise 14", words = "Answers how many had.")
    private static void clearAnswersHowManyRowsHadNumbers() {
        NameNumbers x = new NameNumbers();
        due("none", x.clear(), 0);
        type(x, "a");
        due("a draft is none", x.clear(), 0);
        x.number();
        due("one", x.clear(), 1);
        due("none again", x.clear(), 0);
        numberOf(x, "ab");
        x.part(1, 0, 1);
        x.number();
        due("three", x.clear(), 3);
        due("all", full().clear(), 10);
    }

    // ---- What the tests have in common ----

    private static void due(String what, String got, String want) {
        if (!got.equals(want)) {
            faults.add(what + " answered " + got + ", due is " + want);
        }
    }

    private static void due(String call, int got, int want) {
        if (got != want) {
            faults.add(call + " answered " + got + ", due is " + want);
        }
    }

    private static void due(String call, boolean got, boolean want) {
        if (got != want) {
            faults.add(call + " answered " + got + ", due is " + want);
        }
    }

    private static String text(int... characters) {
        return new String(characters, 0, characters.length);
    }

    /** Puts the text's characters behind the draft. */
    private static void type(NameNumbers x, String text) {
        text.codePoints().forEach(c -> x.write(c, 0));
    }

    private static int numberOf(NameNumbers x, String text) {
        type(x, text);
        return x.number();
    }

    private static NameNumbers with(String... rows) {
        NameNumbers x = new NameNumbers();
        for (String row : rows) {
            numberOf(x, row);
        }
        return x;
    }

    private static NameNumbers drafted(String draft, String... rows) {
        NameNumbers x = with(rows);
        type(x, draft);
        return x;
    }

    /** One row, abc, and a draft of so many characters. */
    private static NameNumbers longDrafted(int length) {
        NameNumbers x = with("abc");
        writeLong(x, 7, length);
        return x;
    }

    private static void writeLong(NameNumbers x, int first, int length) {
        x.write(first, 0);
        for (int left = length - 1; left > 0; left -= 501) {
            x.write(1000, Math.min(left, 501) - 1);
        }
    }

    /** Ten rows with 20000 characters but for so many, by at most 60 calls. */
    private static NameNumbers almostFull(int left) {
        NameNumbers x = new NameNumbers();
        for (int i = 0; i < 10; i++) {
            writeLong(x, i, i < 9 ? 2000 : 2000 - left);
            due("a long row's number", x.number(), i + 1);
        }
        return x;
    }

    private static NameNumbers full() {
        return almostFull(0);
    }

    /** So many rows of one character each, 0 and upwards. */
    private static NameNumbers withRows(int many) {
        NameNumbers x = new NameNumbers();
        for (int i = 0; i < many; i++) {
            x.write(i, 0);
            due("a short row's number", x.number(), i + 1);
        }
        return x;
    }

    /** What is no row's number when there are so many rows. */
    private static int[] notNumbers(int rows) {
        return new int[] {
            MIN, MIN + 1, -rows, -1, 0, rows + 1, rows + 2, 2999, 3000, 3001, 3002, 20000, MAX - 1, MAX
        };
    }

    private static void dueRow(NameNumbers x, int k, String characters) {
        dueCharacters(x, k, characters.codePoints().toArray());
    }

    private static void dueCharacters(NameNumbers x, int k, int... characters) {
        due("length(" + k + ")", x.length(k), characters.length);
        for (int i = 0; i < characters.length; i++) {
            due("sign(" + k + ", " + i + ")", x.sign(k, i), characters[i]);
        }
    }

    private static void dueNoRow(NameNumbers x, int k) {
        due("length(" + k + ")", x.length(k), NONE);
        due("sign(" + k + ", 0)", x.sign(k, 0), NONE);
        due("compare(" + k + ", " + k + ")", x.compare(k, k), NO_SUCH_ROW);
        due("colon(" + k + ")", x.colon(k), NO_SUCH_ROW);
        due("part(" + k + ", 0, 0)", x.part(k, 0, 0), NONE);
        due("next(" + k + ")", x.next(k), NONE);
        due("take(" + k + ")", x.take(k), NONE);
    }

    private static void dueLess(String less, String greater) {
        dueOrder(with(less, greater), 1, 2);
        dueOrder(with(greater, less), 2, 1);
    }

    private static void dueOrder(NameNumbers x, int less, int greater) {
        due("compare(" + less + ", " + greater + ")", x.compare(less, greater), -1);
        due("compare(" + greater + ", " + less + ")", x.compare(greater, less), 1);
        due("next(" + less + ")", x.next(less), greater);
        due("next(" + greater + ")", x.next(greater), 0);
    }

    /** The colon of row 1, which ends with one, with c behind it. */
    private static int colonWith(NameNumbers x, int c) {
        x.take(1);
        x.write(c, 0);
        return x.colon(x.number());
    }

    private static void dueStretch(int first, int last) {
        NameNumbers x = with("a:");
        due("before " + first, colonWith(x, first - 1), NONE);
        due("" + first, colonWith(x, first), 1);
        due("" + last, colonWith(x, last), 1);
        due("behind " + last, colonWith(x, last + 1), NONE);
    }

    /**
     * As XML's NameStartChar has them, so that a slip in the class is not made here again. Without the
     * colon: a second one in a row is answered NONE whatever it is.
     */
    private static boolean isStart(int c) {
        return c >= 'A' && c <= 'Z' || c == '_' || c >= 'a' && c <= 'z'
            || c >= 0xC0 && c <= 0xD6 || c >= 0xD8 && c <= 0xF6 || c >= 0xF8 && c <= 0x2FF
            || c >= 0x370 && c <= 0x37D || c >= 0x37F && c <= 0x1FFF || c >= 0x200C && c <= 0x200D
            || c >= 0x2070 && c <= 0x218F || c >= 0x2C00 && c <= 0x2FEF || c >= 0x3001 && c <= 0xD7FF
            || c >= 0xF900 && c <= 0xFDCF || c >= 0xFDF0 && c <= 0xFFFD || c >= 0x10000 && c <= 0xEFFFF;
    }

    private static void refusedWrite(int c, int many) {
        refused("write(" + c + ", " + many + ")", () -> drafted("xy", "ab"), x -> x.write(c, many), NONE);
    }

    /** Row 2 has three characters, and rows on both sides. */
    private static void refusedPart(int i, int n) {
        refused("part(2, " + i + ", " + n + ")", () -> drafted("xy", "pqr", "abc", "stu"), x -> x.part(2, i, n), NONE);
    }

    /** Whether the call answers so, and leaves the object like one that was made so and not called. */
    private static void refused(String call, Supplier<NameNumbers> made, ToIntFunction<NameNumbers> refusedCall, int answer) {
        NameNumbers x = made.get();
        due(call, refusedCall.applyAsInt(x), answer);
        due("what is there after " + call, picture(x), picture(made.get()));
    }

    /** All that can be told of an object; what is in the draft is seen last, as it needs a number. */
    private static String picture(NameNumbers x) {
        StringBuilder told = new StringBuilder("rows " + x.rows() + ":");
        for (int k = 1; k <= x.rows(); k++) {
            told.append(rowPicture(x, k)).append(", next ").append(x.next(k)).append(';');
        }
        told.append(" draft known ").append(x.isKnown());
        told.append(", cleared ").append(x.clear());
        return told.append(", draft").append(rowPicture(x, x.number())).toString();
    }

    /** A long row by some of its characters only, to keep within 512 calls. */
    private static String rowPicture(NameNumbers x, int k) {
        int length = x.length(k);
        StringBuilder told = new StringBuilder(" " + k + " of " + length);
        for (int i = 0; i < length; i += Math.max(1, length / 7)) {
            told.append(' ').append(x.sign(k, i));
        }
        return told.append(" last ").append(x.sign(k, length - 1)).toString();
    }

    // ---- Running, and the document's words ----

    private static List<Method> tests() {
        List<Method> found = new ArrayList<>();
        for (Method m : SentencesTest.class.getDeclaredMethods()) {
            if (m.isAnnotationPresent(Says.class)) {
                found.add(m);
            }
        }
        found.sort(Comparator.comparing(Method::getName));
        return found;
    }

    private static boolean holds(Method test) throws IllegalAccessException {
        faults.clear();
        try {
            test.invoke(null);
        } catch (InvocationTargetException e) {
            faults.add("thrown: " + e.getCause());
        }
        Says says = test.getAnnotation(Says.class);
        for (String fault : faults.subList(0, Math.min(10, faults.size()))) {
            System.out.println(says.in() + ", \"" + says.words() + "\", " + test.getName() + ": " + fault);
        }
        return faults.isEmpty();
    }

    /** The sections by their names, without signatures, each in one line. */
    private static Map<String, String> sections(String document) {
        Map<String, String> sections = new LinkedHashMap<>();
        for (String section : document.split("\n## ")) {
            int end = section.indexOf('\n');
            String name = section.substring(0, end).replaceAll(":.*", "");
            sections.put(name, section.substring(end).replaceAll("`[^`]+\\)`:", "").replaceAll("\\s+", " "));
        }
        return sections;
    }

    /** How many words of tests are not the document's, and how many of the document have no test. */
    private static int wordFaults(Map<String, String> sections) {
        int wrong = 0;
        Map<String, String> left = new LinkedHashMap<>(sections);
        for (Method test : tests()) {
            Says says = test.getAnnotation(Says.class);
            String section = sections.getOrDefault(says.in(), "");
            int at = section.indexOf(says.words());
            if (at < 0) {
                wrong++;
                System.out.println(test.getName() + ": not in the document: " + says.in() + ", " + says.words());
                continue;
            }
            int end = at + says.words().length();
            String rest = left.get(says.in());
            left.put(says.in(), rest.substring(0, at) + " ".repeat(end - at) + rest.substring(end));
        }
        for (String name : left.keySet()) {
            boolean isTold = name.startsWith("Promise ") || name.equals("Terms") || name.equals("What it is");
            if (isTold && left.get(name).matches(".*[A-Za-z0-9].*")) {
                wrong++;
                System.out.println("no test for words of " + name + ": " + left.get(name).trim());
            }
        }
        return wrong;
    }

    private static int documentFaults() throws IOException {
        Path document = Path.of("../shared/DOC.md");
        if (!Files.exists(document)) {
            System.out.println("no " + document + " here: the tests' words are not held against it");
            return 0;
        }
        return wordFaults(sections(Files.readString(document)));
    }

    public static void main(String[] args) throws Exception {
        int passed = 0;
        int failed = documentFaults();
        for (Method test : tests()) {
            if (holds(test)) {
                passed++;
            } else {
                failed++;
            }
        }
        System.out.println(passed + " passed, " + failed + " failed");
        if (failed != 0) {
            System.exit(1);
        }
    }
}
