import java.io.IOException;
import java.math.BigInteger;
import java.nio.file.Files;
import java.nio.file.Path;
import java.util.LinkedHashMap;
import java.util.LinkedHashSet;
import java.util.Map;
import java.util.NoSuchElementException;
import java.util.Set;

/**
 * Sentence by sentence of the document's terms and promises, the edges that each one names. A sentence
 * of theirs that no test here speaks for is wrong, and so is one here that the document does not have.
 */
public final class EdgesTest {
    private static final Path DOCUMENT = Path.of("..", "shared", "DOC.md");
    private static final Class<?> INDEX = IndexOutOfBoundsException.class;
    private static final Class<?> ARGUMENT = IllegalArgumentException.class;
    private static final Class<?> STATE = IllegalStateException.class;
    private static final Class<?> UNSUPPORTED = UnsupportedOperationException.class;
    private static final Class<?> NONE = NoSuchElementException.class;
    private static final Class<?> ARITHMETIC = ArithmeticException.class;
    private static final String OUT_OF_RANGE = "Throws `IllegalArgumentException` if a number is out of range";
    private static final String NO_APPLICANT = "Throws `IndexOutOfBoundsException` if there is no such applicant";
    private static final String NO_POST = "Throws `IndexOutOfBoundsException` if there is no such post";
    private static final String NEITHER = "Throws `IndexOutOfBoundsException` if there is no such applicant, or post";
    private static final String NO_MATCHING =
        "Throws `IndexOutOfBoundsException` if there is no such matching, for either";
    private static final String UNLIKE_WEIGHTS = "Throws `UnsupportedOperationException` if weights are unlike";
    private static final String AN_APPLICANT = "`applicant`: the applicant";
    private static final String A_POST = "`post`: the post";
    private static final String A_KEPT_ONE = "`matching`: a kept one";
    private static final String A_MATCHING = "`matching`: a matching, -1 for the one in hand";
    private static final String ANOTHER_MATCHING = "`other`: another one, or the same, -1 for the one in hand";
    private static final String POST_OR_NONE = "Returns the post, -1 for none.";

    /** Says what the calls are about, and names no edge. */
    private static final String OVERTURE = "The calls are those that a Java programmer would choose for";

    private static final Map<String, Set<String>> open = new LinkedHashMap<>();
    private static String heading = "";
    private static String sentence = "";
    private static int checks = 0;
    private static int checksBefore = 0;
    private static int sentences = 0;
    private static int wrong = 0;

    private interface Maker {
        Mostwell make();
    }

    private interface Call {
        Object on(Mostwell x);
    }

    private interface Numbered {
        Object on(Mostwell x, int number);
    }

    public static void main(String[] args) throws IOException {
        readDocument();
        callsOfAnObject();
        listsInTerms();
        textsInTerms();
        matchingsInTerms();
        votesInTerms();
        popularOnesInTerms();
        profilesInTerms();
        envyAndExceptionsInTerms();
        newObject();
        addApplicant();
        addPost();
        setWeight();
        setPlaces();
        setRank();
        rankOf();
        type();
        wipe();
        tell();
        textLength();
        textAt();
        assign();
        release();
        postOf();
        freeOf();
        keep();
        take();
        keptPost();
        votes();
        margin();
        differ();
        winner();
        leadLength();
        hasCycle();
        worstMargin();
        challenger();
        isPopular();
        hasPopular();
        popularPost();
        profile();
        bestProfile();
        bestPost();
        isSure();
        gains();
        envies();
        countEnvy();
        matchedShare();
        meanRank();
        checksum();
        isTrue();
        endSentence();
        for (Map.Entry<String, Set<String>> section : open.entrySet()) {
            for (String left : section.getValue()) {
                report(section.getKey() + ": no test speaks for: " + left);
            }
        }
        System.out.println(sentences + " sentences, " + checks + " checks, " + wrong + " wrong");
        if (wrong != 0) {
            System.exit(1);
        }
    }

    // ---- the document's sentences

    private static void readDocument() throws IOException {
        String section = "";
        for (String line : Files.readAllLines(DOCUMENT)) {
            if (line.startsWith("## ")) {
                section = line.substring(3);
                continue;
            }
            if (!section.equals("Terms") && !section.startsWith("Promise ") || line.isBlank()) {
                continue;
            }
            open.putIfAbsent(section, new LinkedHashSet<>());
            if (line.startsWith("- ")) {
                open.get(section).add(line.substring(2));
                continue;
            }
            String text = line.replaceFirst("^`[^`]*`: ", "")
                .replaceFirst("^(Lists|Texts|Matchings|Votes|Popular ones|Profiles|Envy|Exceptions)\\. ", "");
            for (String one : text.split("(?<=\\.) (?=[A-Z])")) {
                if (!one.startsWith(OVERTURE)) {
                    open.get(section).add(one);
                }
            }
        }
        if (open.size() != 42) {
            report("the document has " + open.size() + " headings to speak for, 42 were looked for");
        }
    }

    private static void under(String begin) {
        endSentence();
        for (String section : open.keySet()) {
            if (section.equals(begin) || section.startsWith(begin + ":")) {
                heading = section;
                return;
            }
        }
        report("the document has no heading " + begin);
    }

    private static void says(String text) {
        endSentence();
        sentence = text;
        checksBefore = checks;
        sentences++;
        if (!open.getOrDefault(heading, Set.of()).remove(text)) {
            report(heading + ": the document has not, or has been spoken for: " + text);
        }
    }

    private static void endSentence() {
        if (!sentence.isEmpty() && checks == checksBefore) {
            report(heading + ": nothing is checked for: " + sentence);
        }
        sentence = "";
    }

    // ---- checks

    private static void report(String what) {
        wrong++;
        System.out.println(what);
    }

    private static void is(String what, Object got, Object due) {
        checks++;
        if (!got.equals(due)) {
            report(heading + ", " + sentence + " " + what + " answered " + got + ", due is " + due);
        }
    }

    private static Object answer(Mostwell x, Call call) {
        try {
            return call.on(x);
        } catch (RuntimeException e) {
            return e.getClass();
        }
    }

    /** The call throws what is due, and leaves a house as one is in which it was not made. */
    private static void refused(Maker maker, String what, Class<?> due, Call call) {
        Mostwell x = maker.make();
        is(what, answer(x, call), due);
        is("the house after " + what, picture(x), picture(maker.make()));
    }

    /** All that can be told of a house; it is used up by that. */
    private static String picture(Mostwell x) {
        StringBuilder text = new StringBuilder();
        text.append(x.checksum());
        for (int i = 0; i < 10; i++) {
            int number = i;
            text.append(' ').append(answer(x, y -> y.postOf(number)));
            text.append(' ').append(answer(x, y -> y.freeOf(number)));
            text.append(' ').append(answer(x, y -> y.keptPost(number, 0)));
        }
        text.append(' ').append(answer(x, y -> y.keep()));
        text.append(' ').append(answer(x, y -> y.tell(0)));
        text.append(' ').append(answer(x, y -> y.type('c')));
        text.append(' ').append(answer(x, y -> y.tell(0)));
        text.append(' ').append(answer(x, y -> y.checksum()));
        text.append(' ').append(answer(x, y -> y.wipe()));
        return text.toString();
    }

    /** Each number is refused that is none of 0 to one less than there are. */
    private static void noneBeyond(Maker maker, String what, int count, Numbered call) {
        for (int bad : new int[] {Integer.MIN_VALUE, -65536, -256, -2, -1, count, count + 1, 10, 11, 256, 65536,
                Integer.MAX_VALUE}) {
            refused(maker, what + " " + bad, INDEX, x -> call.on(x, bad));
        }
    }

    /** Each number is refused that is less than the least one or more than the most. */
    private static void onlyWithin(Maker maker, int least, int most, Numbered call) {
        for (int bad : new int[] {Integer.MIN_VALUE, -256, -1, least - 1, most + 1, 256 + least, 65536 + least,
                Integer.MAX_VALUE}) {
            refused(maker, "the number " + bad, ARGUMENT, x -> call.on(x, bad));
        }
        for (int good : new int[] {least, most}) {
            is("the number " + good, answer(maker.make(), x -> call.on(x, good)) instanceof Class, false);
        }
    }

    // ---- houses

    private static Mostwell house(int[] places, String... lists) {
        Mostwell x = new Mostwell();
        for (int p : places) {
            x.addPost(p);
        }
        for (int a = 0; a < lists.length; a++) {
            x.addApplicant(2);
            if (!lists[a].isEmpty()) {
                typeAll(x, lists[a]);
                x.tell(a);
            }
        }
        return x;
    }

    private static void typeAll(Mostwell x, String signs) {
        for (char sign : signs.toCharArray()) {
            x.type(sign);
        }
    }

    private static Mostwell give(Mostwell x, int... posts) {
        for (int a = 0; a < posts.length; a++) {
            if (x.postOf(a) >= 0) {
                x.release(a);
            }
        }
        for (int a = 0; a < posts.length; a++) {
            if (posts[a] >= 0) {
                x.assign(a, posts[a]);
            }
        }
        return x;
    }

    private static int keepOne(Mostwell x, int... posts) {
        return give(x, posts).keep();
    }

    /** Three applicants, three posts, two kept ones, somebody without a post, and a list half typed. */
    private static Mostwell small() {
        Mostwell x = house(new int[] {2, 1, 1}, "a>b>c", "a=b", "c");
        keepOne(x, 0, 1, 2);
        keepOne(x, 0, 0, 2);
        give(x, 0, 0, -1);
        typeAll(x, "b>");
        return x;
    }

    /** Ten of everything, twenty signs typed, no place free. */
    private static Mostwell full() {
        Mostwell x = tens();
        for (int a = 0; a < 10; a++) {
            x.assign(a, a);
        }
        for (int k = 0; k < 10; k++) {
            x.keep();
        }
        typeAll(x, "a>b>c>d>e>f>g>h=i=j>");
        return x;
    }

    /** Ten applicants of weight 9 and ten posts with one place, the ranks of all being 1 to 9 and 9. */
    private static Mostwell tens() {
        Mostwell x = new Mostwell();
        for (int i = 0; i < 10; i++) {
            x.addApplicant(9);
            x.addPost(1);
        }
        for (int a = 0; a < 10; a++) {
            for (int p = 0; p < 10; p++) {
                x.setRank(a, p, Math.min(p + 1, 9));
            }
        }
        return x;
    }

    /**
     * Ten kept ones in a ring: each one is beaten by the next one, the last one by the first one, and ties
     * with all others. Two voters agree on every second two and on nothing else, two more on those between.
     */
    private static Mostwell ring() {
        String[] orders = {"1032547698", "9876543210", "2143658709", "0987654321"};
        Mostwell x = new Mostwell();
        for (int p = 0; p < 9; p++) {
            x.addPost(4);
        }
        for (int a = 0; a < 4; a++) {
            x.addApplicant(1);
            for (int p = 0; p < 9; p++) {
                x.setRank(a, p, p + 1);
            }
        }
        for (int k = 0; k < 10; k++) {
            int[] posts = new int[4];
            for (int a = 0; a < 4; a++) {
                int at = orders[a].indexOf((char) ('0' + k));
                posts[a] = at == 9 ? -1 : at;
            }
            keepOne(x, posts);
        }
        return x;
    }

    private static String told(int count, Mostwell x, Numbered call) {
        StringBuilder text = new StringBuilder();
        for (int i = 0; i < count; i++) {
            text.append(i == 0 ? "" : " ").append(call.on(x, i));
        }
        return text.toString();
    }

    private static String hand(Mostwell x, int applicants) {
        return told(applicants, x, Mostwell::postOf);
    }

    private static String text(Mostwell x, int applicant) {
        return told(x.textLength(applicant), x, (y, i) -> y.textAt(applicant, i)).replace(" ", "");
    }

    private static String ranks(Mostwell x, int applicant, int posts) {
        return told(posts, x, (y, p) -> y.rankOf(applicant, p));
    }

    // ---- what it is, and terms

    private static void callsOfAnObject() {
        heading = "What it is";
        // an object is used for at most 512 calls: the last one of them is as good as the first one
        Mostwell x = house(new int[] {1}, "a", "a");
        for (int call = 8; call < 512; call++) {
            if (call % 2 == 0) {
                x.assign(0, 0);
            } else {
                x.release(0);
            }
        }
        is("the 512th call", x.hasPopular(), true);
        Mostwell y = new Mostwell();
        for (int call = 1; call < 512; call++) {
            answer(y, z -> z.type('>'));
        }
        is("the 512th call after refused ones", y.wipe(), 20);
    }

    private static void listsInTerms() {
        under("Terms");
        says("At most 10 applicants are numbered from 0, each with a weight of 1 to 9.");
        Mostwell x = new Mostwell();
        for (int a = 0; a < 10; a++) {
            is("a new applicant", x.addApplicant(a < 9 ? a + 1 : 9), a);
        }
        is("the weights", told(10, x, (y, a) -> y.setWeight(a, 1)), "1 2 3 4 5 6 7 8 9 9");
        is("an 11th one", answer(x, y -> y.addApplicant(1)), STATE);
        says("At most 10 posts are numbered from 0, each with 1 to 4 places.");
        for (int p = 0; p < 10; p++) {
            is("a new post", x.addPost(1 + p % 4), p);
        }
        is("the places", told(10, x, Mostwell::freeOf), "1 2 3 4 1 2 3 4 1 2");
        is("an 11th one", answer(x, y -> y.addPost(1)), STATE);
        says("Each applicant gives posts ranks of 1 to 9, the lower the better, several may have the same; "
            + "a post without a rank is not on its list.");
        for (int p = 0; p < 9; p++) {
            x.setRank(0, p, 9 - p);
            x.setRank(9, p, 9);
        }
        is("ranks", ranks(x, 0, 10), "9 8 7 6 5 4 3 2 1 0");
        is("its list", text(x, 0), "i>h>g>f>e>d>c>b>a");
        is("ranks that are the same", ranks(x, 9, 10), "9 9 9 9 9 9 9 9 9 0");
        is("its list", text(x, 9), "a=b=c=d=e=f=g=h=i");
        is("a post off its list", answer(x, y -> y.assign(0, 9)), UNSUPPORTED);
        x.assign(0, 7);
        x.assign(9, 8);
        is("rank 1 is better than rank 2", x.envies(0, 9), true);
        says("Having no post is worse than each post on the list; a post that is not on it counts like none.");
        Mostwell z = house(new int[] {1, 1}, "", "");
        z.setRank(0, 0, 9);
        int none = z.keep();
        int some = keepOne(z, 0);
        is("rank 9 against none", z.margin(some, none), 2);
        is("none against rank 9", z.margin(none, some), -2);
        is("envy of rank 9 by one who has none", answer(give(z, -1), y -> y.envies(0, 0)), false);
        z.setRank(0, 0, 0);
        is("a post off the list against none", z.votes(some, none), 0);
        is("none against a post off the list", z.votes(none, some), 0);
        is("the best without lists", told(2, z, Mostwell::bestPost), "-1 -1");
    }

    private static void textsInTerms() {
        says("The text of a list has the letter of each post on it, 'a' for 0, 'b' for 1 and so on, the better ones "
            + "first, of like ones by numbers; between those of one rank there is '=', otherwise '>'.");
        Mostwell x = tens();
        is("the text of ten posts", text(x, 0), "a>b>c>d>e>f>g>h>i=j");
        for (int p = 0; p < 10; p++) {
            x.setRank(0, p, 9 - p / 2);
        }
        is("the text of five ranks of two", text(x, 0), "i=j>g=h>e=f>c=d>a=b");
        for (int p = 1; p < 9; p++) {
            x.setRank(0, p, 0);
        }
        is("the text of the first post and the last one", text(x, 0), "j>a");
        x.setRank(0, 0, 5);
        is("the text of like ones with others off the list between", text(x, 0), "a=j");
        x.setRank(0, 9, 0);
        is("the text of one post", text(x, 0), "a");
        x.setRank(0, 0, 0);
        is("the text of no post", text(x, 0), "");
        says("At most 20 signs are typed.");
        is("signs", told(20, x, (y, i) -> y.type('=')), "1 2 3 4 5 6 7 8 9 10 11 12 13 14 15 16 17 18 19 20");
        is("one more", answer(x, y -> y.type('=')), STATE);
        is("how many are typed then", x.wipe(), 20);
        says("What is typed is a list if it has letters of posts, one at least, each at most once, with one sign "
            + "between each two, and 9 ranks at most: its ranks are 1, 2 and so on.");
        listsThatAreTyped();
    }

    private static void listsThatAreTyped() {
        String[] lists = {"a", "j", "a>b", "b=a", "a>b>c>d>e>f>g>h>i", "a>b>c>d>e>f>g>h>i=j", "j=i>h>g>f>e>d>c>b>a",
            "a=b=c=d=e=f=g=h=i=j"};
        String[] due = {"1 0 0 0 0 0 0 0 0 0", "0 0 0 0 0 0 0 0 0 1", "1 2 0 0 0 0 0 0 0 0", "1 1 0 0 0 0 0 0 0 0",
            "1 2 3 4 5 6 7 8 9 0", "1 2 3 4 5 6 7 8 9 9", "9 8 7 6 5 4 3 2 1 1", "1 1 1 1 1 1 1 1 1 1"};
        for (int i = 0; i < lists.length; i++) {
            Mostwell x = tens();
            typeAll(x, lists[i]);
            is("how many posts " + lists[i] + " has", x.tell(9), (lists[i].length() + 1) / 2);
            is("the ranks of " + lists[i], ranks(x, 9, 10), due[i]);
        }
        for (String bad : new String[] {"", ">", "=", "a>", "a=", ">a", "=a", "ab", "a>>b", "a==b", "a>=b", "a=>b",
                "a>b>", "a=a", "a>a", "a>b=a", "j=j", "abc", "a>bc", "ab>c", "a>b>c>d>e>f>g>h>i>j",
                "a>b>c>d>e>f>g>h>i=j=", "a>b>c>d>e>f>g>h>i=jj", "=>", "a>b>c>d>e>f>g>h>i=a"}) {
            Mostwell x = tens();
            typeAll(x, bad);
            is("tell(9) of '" + bad + "'", answer(x, y -> y.tell(9)), UNSUPPORTED);
            is("the list after it", text(x, 9), "a>b>c>d>e>f>g>h>i=j");
        }
        Mostwell x = house(new int[] {1}, "");
        typeAll(x, "a=b");
        is("with a letter of no post", answer(x, y -> y.tell(0)), UNSUPPORTED);
        x.addPost(1);
        is("when there is the post by then", x.tell(0), 2);
    }

    private static void matchingsInTerms() {
        says("A matching gives each applicant a post on its list, or none, and no post to more applicants than "
            + "it has places.");
        Mostwell x = house(new int[] {4, 1}, "a", "a", "a", "a", "a", "b");
        for (int a = 0; a < 4; a++) {
            is("a place of four", x.assign(a, 0), -1);
        }
        is("a fifth one", answer(x, y -> y.assign(4, 0)), UNSUPPORTED);
        is("one whose list has it not", answer(x, y -> y.assign(5, 0)), UNSUPPORTED);
        is("one whose list has another one", x.assign(5, 1), -1);
        is("the best has four there at most", told(6, x, Mostwell::bestPost), "0 0 0 0 -1 1");
        is("the popular one as well", told(6, x, Mostwell::popularPost), "0 0 0 0 -1 1");
        is("the challenger as well", told(6, x, Mostwell::challenger), "0 0 0 0 -1 1");
        says("There is one in hand, at first with nobody having a post.");
        is("at first", hand(tens(), 10), "-1 -1 -1 -1 -1 -1 -1 -1 -1 -1");
        says("At most 10 matchings are kept, numbered from 0, as they are in hand then; an applicant who comes later "
            + "has none there.");
        for (int k = 0; k < 10; k++) {
            x.release(k % 2);
            is("keep()", x.keep(), k);
            x.assign(k % 2, 0);
        }
        is("an 11th one", answer(x, y -> y.keep()), STATE);
        is("what the first one has there", told(10, x, (y, k) -> y.keptPost(k, 0)), "-1 0 -1 0 -1 0 -1 0 -1 0");
        is("a later applicant", x.addApplicant(1), 6);
        is("what it has there", told(10, x, (y, k) -> y.keptPost(k, 6)), "-1 -1 -1 -1 -1 -1 -1 -1 -1 -1");
        says("Who has a post in hand that is no longer on its list loses it.");
        x.setRank(0, 0, 0);
        is("in hand", hand(x, 7), "-1 0 0 0 -1 1 -1");
        is("the place is free", x.freeOf(0), 1);
        typeAll(x, "b>a");
        x.tell(1);
        typeAll(x, "b");
        x.tell(2);
        is("in hand, one list having the post still", hand(x, 7), "-1 0 -1 0 -1 1 -1");
        x.setRank(1, 0, 9);
        x.setRank(1, 1, 0);
        is("in hand, when it has another rank and another post has none", hand(x, 7), "-1 0 -1 0 -1 1 -1");
        x.setRank(0, 0, 1);
        is("in hand, when the post is on the list again", hand(x, 7), "-1 0 -1 0 -1 1 -1");
        says("Matchings are ordered by what the first applicant has, by posts' numbers, none being behind all posts, "
            + "then by the second one, and so on.");
        is("the first of all that give rank 1", told(2, house(new int[] {1, 1}, "a=b", "a=b"), Mostwell::bestPost), "0 1");
        is("the first one ahead of the second one", told(2, house(new int[] {1}, "a", "a"), Mostwell::bestPost), "0 -1");
        is("ten before nobody", told(10, tens(), Mostwell::bestPost), "0 1 2 3 4 5 6 7 8 9");
        Mostwell last = house(new int[] {1, 1, 1, 1, 1, 1, 1, 1, 1, 1}, "j", "i=j", "h=i=j");
        is("the last post before none", told(3, last, Mostwell::bestPost), "9 8 7");
        Mostwell alike = new Mostwell();
        alike.addPost(4);
        for (int a = 0; a < 10; a++) {
            alike.addApplicant(1);
            alike.setRank(a, 0, 9);
        }
        is("the first four of ten", told(10, alike, Mostwell::bestPost), "0 0 0 0 -1 -1 -1 -1 -1 -1");
    }

    private static void votesInTerms() {
        says("Between two matchings each applicant votes for the one in which it has the better rank by the lists "
            + "of now, by its weight.");
        Mostwell x = house(new int[] {1, 1}, "a>b", "a=b");
        keepOne(x, 0, 1);
        keepOne(x, 1, 0);
        is("the better rank", x.votes(0, 1), 2);
        is("the worse one, or a like one", x.votes(1, 0), 0);
        x.setWeight(0, 9);
        is("by the weight of now", x.votes(0, 1), 9);
        x.setRank(0, 0, 3);
        is("by the list of now", x.votes(1, 0), 9);
        x.setRank(0, 0, 2);
        is("of like ranks", x.votes(0, 1) + x.votes(1, 0), 0);
        says("The margin of one against another is what is for it less what is against it.");
        Mostwell ten = tens();
        keepOne(ten);
        keepOne(ten, 0, 1, 2, 3, 4, 5, 6, 7, 8, 9);
        keepOne(ten, 9, 8, 7, 6, 5, 4, 3, 2, 1, 0);
        is("all for it", ten.margin(1, 0), 90);
        is("all against it", ten.margin(0, 1), -90);
        is("as many for it as against it", ten.margin(1, 2), 0);
        says("One beats another one if its margin is above 0.");
        is("the winner of two that tie", ten.winner(), 1);
        is("a tie is no beating", answer(ten, y -> y.leadLength(1, 2)), NONE);
        ten.setWeight(0, 8);
        is("a margin of 1", ten.margin(2, 1), 1);
        is("the winner by a margin of 1", ten.winner(), 2);
        is("a margin of 1 is a beating", ten.leadLength(1, 2), 1);
        says("A kept matching leads to another one if there is a row of kept ones from the first to the last, in which "
            + "each one beats the one ahead of it; the length of a row is how many steps it has.");
        Mostwell ring = ring();
        for (int from = 0; from < 10; from++) {
            for (int to = 0; to < 10; to++) {
                int due = to > from ? to - from : to - from + 10;
                is("the row from " + from + " to " + to, ring.leadLength(from, to), due);
            }
        }
    }

    private static void popularOnesInTerms() {
        says("What is told popular beats or ties each other matching.");
        Mostwell x = house(new int[] {1, 2}, "a>b", "a>b", "a>b");
        give(x, 0, 1, 1);
        int told = x.keep();
        is("the first popular one", told(3, x, Mostwell::popularPost), "0 1 1");
        keepOne(x, 1, 0, 1);
        keepOne(x, 1, 1, 0);
        keepOne(x, -1, 0, 1);
        keepOne(x, 0, -1, -1);
        is("its margins", told(5, x, (y, k) -> y.margin(told, k)), "0 0 0 0 4");
        says("The greatest margin against the one in hand is that of any matching at all, 0 at least; its challenger is "
            + "the first matching, by order, that has that margin.");
        Mostwell ten = tens();
        is("against nobody having a post", ten.worstMargin(), 90);
        is("its challenger", told(10, ten, Mostwell::challenger), "0 1 2 3 4 5 6 7 8 9");
        for (int a = 0; a < 10; a++) {
            ten.setRank(a, 9 - a, 1);
            ten.assign(a, 9 - a);
        }
        is("against all having their best post", ten.worstMargin(), 0);
        is("0 at least, without applicants", new Mostwell().worstMargin(), 0);
        Mostwell like = house(new int[] {1, 1}, "a=b", "a=b");
        give(like, 1, 0);
        is("of like margins", like.worstMargin(), 0);
        is("the first one by order", told(2, like, Mostwell::challenger), "0 1");
        says("A matching is popular if no matching beats it.");
        Mostwell two = give(house(new int[] {1}, "a", "a"), 0, -1);
        is("one that another one ties", two.isPopular(), true);
        two.setWeight(1, 3);
        is("one that another one beats by 1", two.isPopular(), false);
        two.setWeight(0, 4);
        is("one that beats the other one by 1", two.isPopular(), true);
    }

    private static void profilesInTerms() {
        says("The profile of a matching tells for each rank how many have it.");
        Mostwell ten = tens();
        is("of nobody", told(9, ten, (y, r) -> y.profile(r + 1)), "0 0 0 0 0 0 0 0 0");
        give(ten, 0, 1, 2, 3, 4, 5, 6, 7, 8, 9);
        is("of ten", told(9, ten, (y, r) -> y.profile(r + 1)), "1 1 1 1 1 1 1 1 2");
        says("The best matching has the most of rank 1, of like ones the most of rank 2, and so on; of like profiles it is "
            + "the first by order.");
        for (int rank = 1; rank < 9; rank++) {
            bestOfTwoRanks(rank);
        }
        is("of like profiles", told(2, house(new int[] {1, 1}, "b=a", "b=a"), Mostwell::bestPost), "0 1");
        says("An applicant is sure of a post if it has one in all matchings of the best profile.");
        Mostwell x = house(new int[] {1, 1}, "a", "a", "b");
        is("of one place two want, and of one that nobody else wants", told(3, x, Mostwell::isSure), "false false true");
        x.setRank(1, 1, 9);
        is("one of whom could have a place that is taken by a better rank", told(3, x, Mostwell::isSure), "false false true");
        x.setPlaces(0, 2);
        is("of two places", told(3, x, Mostwell::isSure), "true true true");
        says("It gains by a post if, its list having that post alone, with the rank 1, the best matching gives it this post, "
            + "and that is a better rank by its list of now than what the best one gives it now.");
        // the last one gets the post that it wants by telling no other one, as nobody else then loses by it
        Mostwell y = house(new int[] {1, 2}, "a=b", "a>b", "a>b");
        is("the best", told(3, y, Mostwell::bestPost), "1 0 1");
        is("by its false list", y.gains(2, 0), true);
        is("a post of a like rank", y.gains(0, 0), false);
        is("a worse post", y.gains(1, 1), false);
        is("the post it has", y.gains(1, 0), false);
        y.setRank(2, 0, 0);
        is("a post off its list", y.gains(2, 0), false);
        y.setRank(2, 0, 2);
        is("a post that has the same rank by its list", y.gains(2, 0), false);
        Mostwell none = house(new int[] {1}, "", "");
        none.setRank(0, 0, 9);
        none.setRank(1, 0, 8);
        is("the best", told(2, none, Mostwell::bestPost), "-1 0");
        is("a post of rank 9 instead of none", none.gains(0, 0), true);
        is("nothing changes", ranks(none, 0, 1), "9");
    }

    /** One who has the better rank goes before two of ten who would have the next one, in a ring of wishes. */
    private static void bestOfTwoRanks(int rank) {
        Mostwell x = new Mostwell();
        for (int i = 0; i < 10; i++) {
            x.addApplicant(9);
            x.addPost(1);
        }
        for (int a = 0; a < 10; a++) {
            x.setRank(a, a, rank + 1);
        }
        is("all have rank " + (rank + 1), x.bestProfile(rank + 1), 10);
        x.setRank(9, 0, rank);
        is("one has rank " + rank, x.bestProfile(rank), 1);
        is("all others but one have rank " + (rank + 1), x.bestProfile(rank + 1), 8);
        is("the best", told(10, x, Mostwell::bestPost), "-1 1 2 3 4 5 6 7 8 0");
    }

    private static void envyAndExceptionsInTerms() {
        says("An applicant envies another one if that has a post in hand which has a better rank on the list of the first "
            + "one than what it has.");
        Mostwell x = house(new int[] {1, 1, 1}, "a>b", "a>b", "b=c", "");
        x.setRank(3, 0, 9);
        give(x, 0, 1, 2, -1);
        is("a better rank", x.envies(1, 0), true);
        is("a worse rank", x.envies(0, 1), false);
        is("a like rank", x.envies(2, 1), false);
        is("itself", told(4, x, (y, a) -> y.envies(a, a)), "false false false false");
        is("rank 9, having none", x.envies(3, 0), true);
        is("a post off its list, having none", x.envies(3, 1), false);
        is("one without a post", x.envies(0, 3), false);
        is("a post off its list, having one", x.envies(2, 0), false);
        says("A method that throws an exception changes nothing.");
        refused(EdgesTest::small, "a bad sign", ARGUMENT, y -> y.type('k'));
        refused(EdgesTest::small, "no list", UNSUPPORTED, y -> y.tell(1));
        refused(EdgesTest::full, "a 21st sign", STATE, y -> y.type('a'));
        refused(EdgesTest::full, "an 11th kept one", STATE, y -> y.keep());
        refused(EdgesTest::small, "a false list of no such post", INDEX, y -> y.gains(0, 3));
        says("If several exceptions apply, the exception listed first is thrown.");
        refused(EdgesTest::full, "addApplicant(0)", ARGUMENT, y -> y.addApplicant(0));
        refused(EdgesTest::full, "addPost(5)", ARGUMENT, y -> y.addPost(5));
        refused(EdgesTest::full, "setWeight(10, 0)", INDEX, y -> y.setWeight(10, 0));
        refused(EdgesTest::small, "setPlaces(3, 0)", INDEX, y -> y.setPlaces(3, 0));
        refused(EdgesTest::small, "setPlaces(0, 0)", ARGUMENT, y -> y.setPlaces(0, 0));
        refused(EdgesTest::small, "setRank(3, 0, 10)", INDEX, y -> y.setRank(3, 0, 10));
        refused(EdgesTest::small, "setRank(0, 3, -1)", INDEX, y -> y.setRank(0, 3, -1));
        refused(EdgesTest::full, "type('k')", ARGUMENT, y -> y.type('k'));
        refused(EdgesTest::full, "tell(10)", INDEX, y -> y.tell(10));
        refused(EdgesTest::small, "textAt(3, -1)", INDEX, y -> y.textAt(3, -1));
        refused(EdgesTest::small, "assign(3, 1)", INDEX, y -> y.assign(3, 1));
        refused(EdgesTest::small, "assign(2, 3)", INDEX, y -> y.assign(2, 3));
        refused(EdgesTest::small, "release(3)", INDEX, y -> y.release(3));
        refused(EdgesTest::small, "leadLength(2, 0)", INDEX, y -> y.leadLength(2, 0));
        refused(EdgesTest::unlike, "popularPost(3)", INDEX, y -> y.popularPost(3));
        refused(EdgesTest::unlike, "popularPost(0)", UNSUPPORTED, y -> y.popularPost(0));
    }

    /** Three whose lists are alike, so that nothing is popular, and whose weights are unlike. */
    private static Mostwell unlike() {
        Mostwell x = contested();
        x.setWeight(2, 3);
        return x;
    }

    /** Three whose lists are alike, so that nothing is popular. */
    private static Mostwell contested() {
        return house(new int[] {1, 1, 1}, "a>b>c", "a>b>c", "a>b>c");
    }

    // ---- promises 1 to 12: applicants, posts, lists, texts

    private static void newObject() {
        under("Promise 1");
        says("Creates a house without applicants, posts and kept matchings.");
        Mostwell x = new Mostwell();
        is("an applicant", answer(x, y -> y.postOf(0)), INDEX);
        is("a post", answer(x, y -> y.freeOf(0)), INDEX);
        is("a kept one", answer(x, y -> y.take(0)), INDEX);
        is("signs", x.wipe(), 0);
        is("the first applicant", x.addApplicant(1), 0);
        is("the first post", x.addPost(1), 0);
        is("the first kept one", x.keep(), 0);
        is("another house", new Mostwell().checksum(), 7L);
    }

    private static void addApplicant() {
        under("Promise 2");
        says("Adds an applicant with an empty list.");
        Mostwell x = full();
        Mostwell y = small();
        is("the list", y.textLength(y.addApplicant(1)), 0);
        is("its ranks", ranks(y, 3, 3), "0 0 0");
        is("its post", y.postOf(3), -1);
        is("the best for it", y.bestPost(3), -1);
        says("`weight`: 1 to 9");
        onlyWithin(EdgesTest::small, 1, 9, (z, weight) -> z.addApplicant(weight));
        is("weight 9", y.addApplicant(9), 4);
        is("the weight before", y.setWeight(4, 1), 9);
        says("Returns its number.");
        is("ten of them", told(10, new Mostwell(), (z, a) -> z.addApplicant(1)), "0 1 2 3 4 5 6 7 8 9");
        says(OUT_OF_RANGE);
        refused(Mostwell::new, "weight 0", ARGUMENT, z -> z.addApplicant(0));
        refused(Mostwell::new, "weight 10", ARGUMENT, z -> z.addApplicant(10));
        says("Throws `IllegalStateException` if there are 10");
        is("an 11th one", answer(x, z -> z.addApplicant(1)), STATE);
        is("an 11th one again", answer(x, z -> z.addApplicant(9)), STATE);
        refused(EdgesTest::full, "an 11th one", STATE, z -> z.addApplicant(9));
        refused(EdgesTest::full, "an 11th one of weight 10", ARGUMENT, z -> z.addApplicant(10));
    }

    private static void addPost() {
        under("Promise 3");
        says("Adds a post.");
        Mostwell x = small();
        is("its number", x.addPost(2), 3);
        is("its places", x.freeOf(3), 2);
        is("ranks of it", told(3, x, (y, a) -> y.rankOf(a, 3)), "0 0 0");
        is("who has it", hand(x, 3), "0 0 -1");
        says("`places`: 1 to 4");
        onlyWithin(EdgesTest::small, 1, 4, (y, places) -> y.addPost(places));
        is("the places of 4", x.freeOf(x.addPost(4)), 4);
        is("the place of 1", x.freeOf(x.addPost(1)), 1);
        says("Returns its number.");
        is("ten of them", told(10, new Mostwell(), (z, p) -> z.addPost(1)), "0 1 2 3 4 5 6 7 8 9");
        says(OUT_OF_RANGE);
        refused(Mostwell::new, "0 places", ARGUMENT, z -> z.addPost(0));
        refused(Mostwell::new, "5 places", ARGUMENT, z -> z.addPost(5));
        says("Throws `IllegalStateException` if there are 10");
        refused(EdgesTest::full, "an 11th one", STATE, z -> z.addPost(4));
        refused(EdgesTest::full, "an 11th one of 5 places", ARGUMENT, z -> z.addPost(5));
    }

    private static void setWeight() {
        under("Promise 4");
        says("Sets the weight of an applicant.");
        Mostwell x = full();
        for (int a = 0; a < 10; a++) {
            x.setWeight(a, a < 9 ? 9 - a : 1);
        }
        give(x, -1, -1, -1, -1, -1, -1, -1, -1, -1, -1);
        is("the weights against the one in hand", x.votes(0, -1), 46);
        says(AN_APPLICANT);
        is("the first one and the last one", "" + x.setWeight(0, 5) + x.setWeight(9, 6), "91");
        says("`weight`: 1 to 9");
        onlyWithin(EdgesTest::small, 1, 9, (y, weight) -> y.setWeight(2, weight));
        says("Returns the one before.");
        is("the one before", "" + x.setWeight(0, 5) + x.setWeight(0, 9) + x.setWeight(0, 1) + x.setWeight(9, 6), "5596");
        says(NO_APPLICANT);
        noneBeyond(EdgesTest::small, "applicant", 3, (y, a) -> y.setWeight(a, 1));
        noneBeyond(EdgesTest::full, "applicant of ten", 10, (y, a) -> y.setWeight(a, 1));
        noneBeyond(Mostwell::new, "applicant of none", 0, (y, a) -> y.setWeight(a, 1));
        says(OUT_OF_RANGE);
        refused(EdgesTest::full, "weight 0", ARGUMENT, z -> z.setWeight(9, 0));
        refused(EdgesTest::full, "weight 10", ARGUMENT, z -> z.setWeight(0, 10));
    }

    private static void setPlaces() {
        under("Promise 5");
        says("Sets the places of a post.");
        Mostwell x = small();
        is("before", x.setPlaces(1, 4), 1);
        is("free places", told(3, x, Mostwell::freeOf), "0 4 1");
        says(A_POST);
        is("the first one and the last one of ten", "" + full().setPlaces(0, 4) + full().setPlaces(9, 4), "11");
        says("`places`: 1 to 4");
        onlyWithin(EdgesTest::small, 1, 4, (y, places) -> y.setPlaces(2, places));
        says("Returns the ones before.");
        is("the ones before", "" + x.setPlaces(1, 3) + x.setPlaces(1, 3) + x.setPlaces(1, 1), "433");
        says(NO_POST);
        noneBeyond(EdgesTest::small, "post", 3, (y, p) -> y.setPlaces(p, 1));
        noneBeyond(EdgesTest::full, "post of ten", 10, (y, p) -> y.setPlaces(p, 4));
        noneBeyond(Mostwell::new, "post of none", 0, (y, p) -> y.setPlaces(p, 1));
        says(OUT_OF_RANGE);
        refused(EdgesTest::full, "0 places", ARGUMENT, z -> z.setPlaces(9, 0));
        refused(EdgesTest::full, "5 places", ARGUMENT, z -> z.setPlaces(0, 5));
        says("Throws `UnsupportedOperationException` if more applicants have it in hand");
        refused(EdgesTest::small, "one place for two", UNSUPPORTED, y -> y.setPlaces(0, 1));
        is("two places for two", x.setPlaces(0, 2), 2);
        x.release(1);
        is("one place for one", x.setPlaces(0, 1), 2);
        is("no place for two who are kept there", answer(x, y -> y.take(1)), UNSUPPORTED);
        Mostwell four = give(house(new int[] {4}, "a", "a", "a", "a"), 0, 0, 0, 0);
        is("three places for four", answer(four, y -> y.setPlaces(0, 3)), UNSUPPORTED);
        is("four places for four", four.setPlaces(0, 4), 4);
    }

    private static void setRank() {
        under("Promise 6");
        says("Sets a rank.");
        Mostwell x = tens();
        is("before", x.setRank(9, 9, 1), 9);
        is("the ranks", ranks(x, 9, 10), "1 2 3 4 5 6 7 8 9 1");
        is("those of another one", ranks(x, 8, 10), "1 2 3 4 5 6 7 8 9 9");
        says(AN_APPLICANT);
        is("the first one and the last one", "" + x.setRank(0, 4, 1) + x.setRank(9, 4, 1), "55");
        says(A_POST);
        is("the first one and the last one", "" + x.setRank(4, 0, 2) + x.setRank(4, 9, 2), "19");
        says("`rank`: 1 to 9, 0 for none");
        onlyWithin(EdgesTest::small, 0, 9, (y, rank) -> y.setRank(1, 1, rank));
        is("rank 1, 9 and 0", "" + x.setRank(0, 0, 1) + x.setRank(0, 0, 9) + x.setRank(0, 0, 0) + x.rankOf(0, 0), "1190");
        says("Returns the one before, 0 for none.");
        is("none before", "" + x.setRank(0, 0, 0) + x.setRank(0, 0, 7) + x.setRank(0, 0, 7), "007");
        says(NEITHER);
        noneBeyond(EdgesTest::small, "applicant", 3, (y, a) -> y.setRank(a, 0, 1));
        noneBeyond(EdgesTest::small, "post", 3, (y, p) -> y.setRank(0, p, 1));
        noneBeyond(EdgesTest::full, "applicant of ten", 10, (y, a) -> y.setRank(a, 0, 0));
        noneBeyond(EdgesTest::full, "post of ten", 10, (y, p) -> y.setRank(0, p, 0));
        noneBeyond(Mostwell::new, "applicant of none", 0, (y, a) -> y.setRank(a, 0, 1));
        says(OUT_OF_RANGE);
        refused(EdgesTest::full, "rank -1", ARGUMENT, z -> z.setRank(9, 9, -1));
        refused(EdgesTest::full, "rank 10", ARGUMENT, z -> z.setRank(0, 0, 10));
    }

    private static void rankOf() {
        under("Promise 7");
        says("Returns a rank.");
        Mostwell x = small();
        is("the ranks of the first one", ranks(x, 0, 3), "1 2 3");
        says(AN_APPLICANT);
        is("the first one and the last one of ten", "" + full().rankOf(0, 4) + full().rankOf(9, 4), "55");
        says(A_POST);
        is("the first one and the last one of ten", "" + full().rankOf(4, 0) + full().rankOf(4, 9), "19");
        says("Returns the rank, 0 for none.");
        is("the ranks of the last one", ranks(x, 2, 3), "0 0 1");
        says(NEITHER);
        noneBeyond(EdgesTest::small, "applicant", 3, (y, a) -> y.rankOf(a, 0));
        noneBeyond(EdgesTest::small, "post", 3, (y, p) -> y.rankOf(0, p));
        noneBeyond(EdgesTest::full, "applicant of ten", 10, (y, a) -> y.rankOf(a, 0));
        noneBeyond(EdgesTest::full, "post of ten", 10, (y, p) -> y.rankOf(0, p));
        noneBeyond(Mostwell::new, "post of none", 0, (y, p) -> y.rankOf(0, p));
    }

    private static void type() {
        under("Promise 8");
        says("Types a sign.");
        Mostwell x = small();
        x.type('a');
        x.tell(2);
        is("the list told by it", text(x, 2), "b>a");
        says("`sign`: 'a' to 'j', '>' or '='");
        for (int sign = 0; sign <= 0xffff; sign += sign < 300 ? 1 : 4001) {
            char one = (char) sign;
            boolean known = "abcdefghij>=".indexOf(one) >= 0;
            is("the sign " + sign, answer(new Mostwell(), y -> y.type(one)), known ? (Object) 1 : ARGUMENT);
        }
        says("Returns how many are typed.");
        is("how many", told(20, x, (y, i) -> y.type('j')), "1 2 3 4 5 6 7 8 9 10 11 12 13 14 15 16 17 18 19 20");
        says("Throws `IllegalArgumentException` if it is none of them");
        for (char bad : new char[] {'`', 'k', '<', '?', 'A', 'J', ' ', 0, 353, 65535, 'a' + 256, '>' + 256}) {
            refused(EdgesTest::small, "the sign " + (int) bad, ARGUMENT, y -> y.type(bad));
        }
        says("Throws `IllegalStateException` if there are 20");
        refused(EdgesTest::full, "a 21st letter", STATE, y -> y.type('j'));
        refused(EdgesTest::full, "a 21st sign between", STATE, y -> y.type('='));
        refused(EdgesTest::full, "a 21st sign that is none", ARGUMENT, y -> y.type('k'));
    }

    private static void wipe() {
        under("Promise 9");
        says("Takes what is typed away.");
        Mostwell x = small();
        x.wipe();
        is("a list of nothing", answer(x, y -> y.tell(0)), UNSUPPORTED);
        is("the first sign then", x.type('c'), 1);
        is("the list then", x.tell(0), 1);
        Mostwell twenty = full();
        twenty.wipe();
        is("after twenty", twenty.type('a'), 1);
        says("Returns how many signs there were.");
        is("twenty", full().wipe(), 20);
        is("two", small().wipe(), 2);
        is("none at first", new Mostwell().wipe(), 0);
        is("one, and none then", "" + twenty.wipe() + twenty.wipe(), "10");
    }

    private static void tell() {
        under("Promise 10");
        says("Tells a list by what is typed, which is gone then, in place of the earlier one.");
        Mostwell x = small();
        x.type('c');
        is("how many", x.tell(0), 2);
        is("what is gone", x.wipe(), 0);
        is("the list", ranks(x, 0, 3), "0 1 2");
        is("the lists of the others", text(x, 1) + " " + text(x, 2), "a=b c");
        is("its post in hand is off it", hand(x, 3), "-1 0 -1");
        is("telling nothing again", answer(x, y -> y.tell(0)), UNSUPPORTED);
        says(AN_APPLICANT);
        Mostwell ten = tens();
        typeAll(ten, "j>a");
        ten.tell(0);
        typeAll(ten, "a>j");
        ten.tell(9);
        is("the first one and the last one of ten", text(ten, 0) + " " + text(ten, 9), "j>a a>j");
        says("Returns how many posts are on it.");
        typeAll(ten, "j");
        is("one", ten.tell(5), 1);
        typeAll(ten, "a>b>c>d>e>f>g>h>i=j");
        is("ten", ten.tell(5), 10);
        says(NO_APPLICANT);
        noneBeyond(EdgesTest::typed, "applicant", 3, Mostwell::tell);
        noneBeyond(EdgesTest::full, "applicant of ten", 10, Mostwell::tell);
        noneBeyond(EdgesTest::typedAlone, "applicant of none", 0, Mostwell::tell);
        says("Throws `UnsupportedOperationException` if what is typed is no list");
        refused(EdgesTest::small, "a list that ends between", UNSUPPORTED, y -> y.tell(0));
        refused(EdgesTest::full, "twenty signs", UNSUPPORTED, y -> y.tell(9));
        refused(EdgesTest::contested, "nothing", UNSUPPORTED, y -> y.tell(0));
        refused(EdgesTest::typedBeyond, "the letter of no post", UNSUPPORTED, y -> y.tell(0));
        refused(EdgesTest::typedTwice, "a letter twice", UNSUPPORTED, y -> y.tell(0));
    }

    private static Mostwell typed() {
        Mostwell x = small();
        x.type('a');
        return x;
    }

    private static Mostwell typedAlone() {
        Mostwell x = new Mostwell();
        x.addPost(1);
        x.type('a');
        return x;
    }

    private static Mostwell typedBeyond() {
        Mostwell x = small();
        x.type('d');
        return x;
    }

    private static Mostwell typedTwice() {
        Mostwell x = small();
        x.type('b');
        return x;
    }

    private static void textLength() {
        under("Promise 11");
        says("Returns the length of the text of a list.");
        is("of three posts, two and one", told(3, small(), Mostwell::textLength), "5 3 1");
        says(AN_APPLICANT);
        Mostwell x = full();
        x.setRank(0, 0, 0);
        is("the first one and the last one of ten", x.textLength(0) + " " + x.textLength(9), "17 19");
        says("Returns how many signs.");
        is("of ten posts", full().textLength(5), 19);
        is("of no post", house(new int[] {1}, "").textLength(0), 0);
        is("without posts", house(new int[] {}, "").textLength(0), 0);
        says(NO_APPLICANT);
        noneBeyond(EdgesTest::small, "applicant", 3, Mostwell::textLength);
        noneBeyond(EdgesTest::full, "applicant of ten", 10, Mostwell::textLength);
        noneBeyond(Mostwell::new, "applicant of none", 0, Mostwell::textLength);
    }

    private static void textAt() {
        under("Promise 12");
        says("Returns a sign of the text of a list.");
        is("the signs", text(full(), 9), "a>b>c>d>e>f>g>h>i=j");
        says(AN_APPLICANT);
        Mostwell x = tens();
        x.setRank(0, 0, 0);
        x.setRank(9, 9, 0);
        is("the first one and the last one of ten", text(x, 0) + " " + text(x, 9), "b>c>d>e>f>g>h>i=j a>b>c>d>e>f>g>h>i");
        says("`index`: the index, from 0");
        is("index 0", full().textAt(9, 0), 'a');
        is("the last index", full().textAt(9, 18), 'j');
        says("Returns the sign.");
        is("a letter and signs between", "" + small().textAt(1, 0) + small().textAt(1, 1) + small().textAt(0, 1), "a=>");
        says(NO_APPLICANT);
        noneBeyond(EdgesTest::small, "applicant", 3, (y, a) -> y.textAt(a, 0));
        noneBeyond(EdgesTest::full, "applicant of ten", 10, (y, a) -> y.textAt(a, 0));
        noneBeyond(Mostwell::new, "applicant of none", 0, (y, a) -> y.textAt(a, 0));
        says("Throws `NoSuchElementException` if there is none");
        for (int bad : new int[] {Integer.MIN_VALUE, -256, -1, 19, 20, 21, 256, 65536, Integer.MAX_VALUE}) {
            refused(EdgesTest::full, "index " + bad + " of nineteen signs", NONE, y -> y.textAt(9, bad));
            refused(EdgesTest::small, "index " + bad + " of one sign", NONE, y -> y.textAt(2, bad));
        }
        refused(EdgesTest::small, "index 1 of one sign", NONE, y -> y.textAt(2, 1));
        is("index 0 of no sign", answer(house(new int[] {1}, ""), y -> y.textAt(0, 0)), NONE);
    }

    // ---- promises 13 to 25: matchings, votes, agendas

    private static void assign() {
        under("Promise 13");
        says("Gives an applicant a post in hand, in place of what it has.");
        Mostwell x = small();
        is("the post before", x.assign(0, 1), 0);
        is("in hand", hand(x, 3), "1 0 -1");
        is("free places", told(3, x, Mostwell::freeOf), "1 0 1");
        says(AN_APPLICANT);
        Mostwell ten = tens();
        is("the first one and the last one of ten", ten.assign(0, 4) + " " + ten.assign(9, 5), "-1 -1");
        says(A_POST);
        is("the first one and the last one of ten", ten.assign(0, 0) + " " + ten.assign(9, 9), "4 5");
        is("in hand", hand(ten, 10), "0 -1 -1 -1 -1 -1 -1 -1 -1 9");
        says("Returns the post before, -1 for none.");
        is("none before", x.assign(2, 2), -1);
        x.release(0);
        is("post 0 before", x.assign(1, 1), 0);
        is("post 1 before", x.assign(1, 0), 1);
        says(NEITHER);
        noneBeyond(EdgesTest::small, "applicant", 3, (y, a) -> y.assign(a, 2));
        noneBeyond(EdgesTest::small, "post", 3, (y, p) -> y.assign(0, p));
        noneBeyond(EdgesTest::full, "applicant of ten", 10, (y, a) -> y.assign(a, 0));
        noneBeyond(EdgesTest::full, "post of ten", 10, (y, p) -> y.assign(0, p));
        noneBeyond(Mostwell::new, "applicant of none", 0, (y, a) -> y.assign(a, 0));
        says("Throws `UnsupportedOperationException` if it has the post, the post is not on its list, or has no free place");
        refused(EdgesTest::roomy, "the post it has", UNSUPPORTED, y -> y.assign(0, 0));
        refused(EdgesTest::roomy, "a post off its list", UNSUPPORTED, y -> y.assign(2, 0));
        refused(EdgesTest::crowded, "a post without a free place", UNSUPPORTED, y -> y.assign(2, 0));
        is("the last free place", crowded().assign(3, 1), -1);
        Mostwell freed = crowded();
        freed.release(1);
        is("a place that is free again", freed.assign(2, 0), 1);
    }

    /** The first one has one of four places, the last one's list has another post alone. */
    private static Mostwell roomy() {
        return give(house(new int[] {4, 1}, "a>b", "a", "b"), 0, -1, -1);
    }

    private static Mostwell crowded() {
        return give(house(new int[] {2, 2}, "a", "a", "a>b", "b", "b"), 0, 0, 1, -1, -1);
    }

    private static void release() {
        under("Promise 14");
        says("Takes the post in hand of an applicant away.");
        Mostwell x = small();
        x.release(0);
        is("in hand", hand(x, 3), "-1 0 -1");
        is("free places", told(3, x, Mostwell::freeOf), "1 1 1");
        is("the kept one", x.keptPost(0, 0), 0);
        says(AN_APPLICANT);
        is("the first one and the last one of ten", full().release(0) + " " + full().release(9), "0 9");
        says("Returns the post.");
        is("the post", x.release(1), 0);
        says(NO_APPLICANT);
        noneBeyond(EdgesTest::small, "applicant", 3, Mostwell::release);
        noneBeyond(EdgesTest::full, "applicant of ten", 10, Mostwell::release);
        noneBeyond(Mostwell::new, "applicant of none", 0, Mostwell::release);
        says("Throws `NoSuchElementException` if it has none");
        refused(EdgesTest::small, "one who has none", NONE, y -> y.release(2));
        is("one who has none by now", answer(x, y -> y.release(1)), NONE);
        Mostwell lost = small();
        lost.setRank(0, 0, 0);
        is("one who lost it", answer(lost, y -> y.release(0)), NONE);
    }

    private static void postOf() {
        under("Promise 15");
        says("Returns the post in hand of an applicant.");
        is("in hand", hand(full(), 10), "0 1 2 3 4 5 6 7 8 9");
        says(AN_APPLICANT);
        is("the first one and the last one of ten", full().postOf(0) + " " + full().postOf(9), "0 9");
        says(POST_OR_NONE);
        is("two who have one, and one who has none", hand(small(), 3), "0 0 -1");
        says(NO_APPLICANT);
        noneBeyond(EdgesTest::small, "applicant", 3, Mostwell::postOf);
        noneBeyond(EdgesTest::full, "applicant of ten", 10, Mostwell::postOf);
        noneBeyond(Mostwell::new, "applicant of none", 0, Mostwell::postOf);
    }

    private static void freeOf() {
        under("Promise 16");
        says("Returns how many places of a post are free in hand.");
        is("free places", told(3, small(), Mostwell::freeOf), "0 1 1");
        says(A_POST);
        Mostwell x = full();
        x.setPlaces(0, 2);
        x.setPlaces(9, 3);
        is("the first one and the last one of ten", x.freeOf(0) + " " + x.freeOf(9), "1 2");
        says("Returns how many.");
        Mostwell four = house(new int[] {4}, "a", "a", "a", "a", "a");
        StringBuilder free = new StringBuilder().append(four.freeOf(0));
        for (int a = 0; a < 4; a++) {
            four.assign(a, 0);
            free.append(four.freeOf(0));
        }
        is("from empty to full", free.toString(), "43210");
        four.setRank(3, 0, 0);
        is("when a list loses it", four.freeOf(0), 1);
        says(NO_POST);
        noneBeyond(EdgesTest::small, "post", 3, Mostwell::freeOf);
        noneBeyond(EdgesTest::full, "post of ten", 10, Mostwell::freeOf);
        noneBeyond(Mostwell::new, "post of none", 0, Mostwell::freeOf);
    }

    private static void keep() {
        under("Promise 17");
        says("Keeps the matching in hand.");
        Mostwell x = small();
        int kept = x.keep();
        x.release(0);
        is("what is kept", told(3, x, (y, a) -> y.keptPost(kept, a)), "0 0 -1");
        is("what is in hand", hand(x, 3), "-1 0 -1");
        is("one without applicants", new Mostwell().keep(), 0);
        says("Returns its number.");
        is("ten", told(10, new Mostwell(), (y, k) -> y.keep()), "0 1 2 3 4 5 6 7 8 9");
        says("Throws `IllegalStateException` if there are 10");
        refused(EdgesTest::full, "an 11th one", STATE, Mostwell::keep);
    }

    private static void take() {
        under("Promise 18");
        says("Takes a kept matching into the hand.");
        Mostwell x = small();
        x.take(0);
        is("in hand", hand(x, 3), "0 1 2");
        x.release(2);
        is("what is kept stays", x.keptPost(0, 2), 2);
        x.addApplicant(1);
        x.setRank(3, 2, 9);
        x.assign(3, 2);
        is("one who came later has none", x.take(1) + ": " + hand(x, 4), "3: 0 0 2 -1");
        says(A_KEPT_ONE);
        Mostwell ten = full();
        give(ten, -1, -1, -1, -1, -1, -1, -1, -1, -1, -1);
        is("the first one and the last one of ten", ten.take(0) + " " + ten.take(9), "10 10");
        says("Returns how many applicants have a post then.");
        is("three, and two then", small().take(0) + " " + keptAndTaken(small()), "3 2");
        is("none", keptAndTaken(new Mostwell()), 0);
        is("none of ten", keptAndTaken(tens()), 0);
        says("Throws `IndexOutOfBoundsException` if there is no such kept one");
        noneBeyond(EdgesTest::small, "kept one", 2, Mostwell::take);
        noneBeyond(EdgesTest::full, "kept one of ten", 10, Mostwell::take);
        noneBeyond(Mostwell::new, "kept one of none", 0, Mostwell::take);
        says("Throws `UnsupportedOperationException` if it is no matching by now");
        refused(EdgesTest::crampedSmall, "two who have one place", UNSUPPORTED, y -> y.take(1));
        is("one who has one place", crampedSmall().take(0), 3);
        refused(EdgesTest::unlistedSmall, "a post off a list", UNSUPPORTED, y -> y.take(0));
        Mostwell again = unlistedSmall();
        again.setRank(2, 2, 9);
        is("when it is on the list again", again.take(0), 3);
    }

    private static int keptAndTaken(Mostwell x) {
        return x.take(x.keep());
    }

    private static Mostwell crampedSmall() {
        Mostwell x = small();
        x.release(0);
        x.setPlaces(0, 1);
        return x;
    }

    private static Mostwell unlistedSmall() {
        Mostwell x = small();
        x.setRank(2, 2, 0);
        return x;
    }

    private static void keptPost() {
        under("Promise 19");
        says("Returns what an applicant has in a kept matching.");
        is("what each has", told(3, small(), (y, a) -> y.keptPost(0, a)), "0 1 2");
        says(A_KEPT_ONE);
        Mostwell x = full();
        is("the first one and the last one of ten", x.keptPost(0, 4) + " " + x.keptPost(9, 4), "4 4");
        says(AN_APPLICANT);
        is("the first one and the last one of ten", x.keptPost(5, 0) + " " + x.keptPost(5, 9), "0 9");
        says(POST_OR_NONE);
        Mostwell y = small();
        int third = y.keep();
        y.addApplicant(1);
        is("one who has none, and one who came later", y.keptPost(third, 2) + " " + y.keptPost(third, 3), "-1 -1");
        y.setRank(0, 0, 0);
        is("a post that is off the list by now", y.keptPost(third, 0), 0);
        says("Throws `IndexOutOfBoundsException` if there is no such kept one, or applicant");
        noneBeyond(EdgesTest::small, "kept one", 2, (z, k) -> z.keptPost(k, 0));
        noneBeyond(EdgesTest::small, "applicant", 3, (z, a) -> z.keptPost(0, a));
        noneBeyond(EdgesTest::full, "kept one of ten", 10, (z, k) -> z.keptPost(k, 0));
        noneBeyond(EdgesTest::full, "applicant of ten", 10, (z, a) -> z.keptPost(0, a));
        noneBeyond(Mostwell::new, "kept one of none", 0, (z, k) -> z.keptPost(k, 0));
    }

    /** Ten kept ones, by turns nobody and each its own post of ten, and nobody in hand. */
    private static Mostwell turns() {
        Mostwell x = tens();
        for (int k = 0; k < 5; k++) {
            keepOne(x, -1, -1, -1, -1, -1, -1, -1, -1, -1, -1);
            keepOne(x, 0, 1, 2, 3, 4, 5, 6, 7, 8, 9);
        }
        return give(x, -1, -1, -1, -1, -1, -1, -1, -1, -1, -1);
    }

    private static void votes() {
        under("Promise 20");
        says("Returns the weight of those who vote for a matching against another one.");
        Mostwell x = turns();
        is("all of them", x.votes(1, 0), 90);
        is("none of them", x.votes(0, 1), 0);
        says(A_MATCHING);
        is("the last one, and the one in hand", x.votes(9, 8) + " " + x.votes(-1, 9), "90 0");
        says(ANOTHER_MATCHING);
        is("the one in hand", x.votes(9, -1), 90);
        is("the same", x.votes(9, 9) + " " + x.votes(-1, -1), "0 0");
        is("the same without anybody", new Mostwell().votes(-1, -1), 0);
        says("Returns the sum of weights.");
        x.setWeight(3, 1);
        x.assign(9, 9);
        is("a sum of 1 and 8 times 9", x.votes(1, -1), 73);
        says(NO_MATCHING);
        noMatchings((y, k) -> y.votes(k, 0), (y, k) -> y.votes(0, k), (y, k) -> y.votes(k, -1));
    }

    /** -1 is the one in hand, so what is beyond begins at -2. */
    private static void noMatchings(Numbered first, Numbered second, Numbered withoutKept) {
        for (int bad : new int[] {Integer.MIN_VALUE, -65537, -257, -2, 2, 3, 10, 255, 65535, Integer.MAX_VALUE}) {
            refused(EdgesTest::small, "matching " + bad + " first", INDEX, x -> first.on(x, bad));
            refused(EdgesTest::small, "matching " + bad + " second", INDEX, x -> second.on(x, bad));
        }
        refused(EdgesTest::full, "an 11th matching first", INDEX, x -> first.on(x, 10));
        refused(EdgesTest::full, "an 11th matching second", INDEX, x -> second.on(x, 10));
        refused(Mostwell::new, "a matching of none", INDEX, x -> withoutKept.on(x, 0));
    }

    private static void margin() {
        under("Promise 21");
        says("Returns the margin of a matching against another one.");
        Mostwell x = turns();
        is("the greatest one there is", x.margin(1, 0), 90);
        is("the least one there is", x.margin(0, 1), -90);
        says(A_MATCHING);
        is("the last one, and the one in hand", x.margin(9, 8) + " " + x.margin(-1, 9), "90 -90");
        says(ANOTHER_MATCHING);
        is("the one in hand", x.margin(9, -1), 90);
        is("the same", x.margin(9, 9) + " " + x.margin(-1, -1), "0 0");
        says("Returns the margin.");
        give(x, 1, 0, 2, 3, 4, 5, 6, 7, 9, 8);
        is("as much for it as against it", x.margin(1, -1), 0);
        x.setWeight(1, 8);
        is("one more for it", x.margin(1, -1), 1);
        is("one less for it", x.margin(-1, 1), -1);
        says(NO_MATCHING);
        noMatchings((y, k) -> y.margin(k, 0), (y, k) -> y.margin(0, k), (y, k) -> y.margin(k, -1));
    }

    private static void differ() {
        under("Promise 22");
        says("Returns how many applicants have unlike posts in two matchings.");
        Mostwell x = turns();
        is("all of them", x.differ(0, 1), 10);
        is("none of them", x.differ(0, 2), 0);
        says(A_MATCHING);
        is("the last one, and the one in hand", x.differ(9, 8) + " " + x.differ(-1, 9), "10 10");
        says(ANOTHER_MATCHING);
        is("the one in hand", x.differ(9, -1), 10);
        is("the same", x.differ(9, 9) + " " + x.differ(-1, -1), "0 0");
        says("Returns how many.");
        x.assign(9, 9);
        is("nine", x.differ(-1, 1), 9);
        is("one", x.differ(0, -1), 1);
        Mostwell like = house(new int[] {1, 1}, "a=b");
        keepOne(like, 0);
        give(like, 1);
        is("unlike posts of one rank", like.differ(0, -1), 1);
        like.addApplicant(1);
        is("one who came later", like.differ(0, -1), 1);
        says(NO_MATCHING);
        noMatchings((y, k) -> y.differ(k, 0), (y, k) -> y.differ(0, k), (y, k) -> y.differ(k, -1));
    }

    private static void winner() {
        under("Promise 23");
        says("Returns the kept matching that no kept one beats.");
        is("of two", small().winner(), 0);
        Mostwell x = house(new int[] {1}, "a");
        keepOne(x, -1);
        is("one alone", x.winner(), 0);
        give(x, 0);
        is("the one in hand beats it, and is not kept", x.winner(), 0);
        for (int k = 1; k < 9; k++) {
            keepOne(x, -1);
        }
        keepOne(x, 0);
        is("the last one of ten", x.winner(), 9);
        says("Returns the matching, of several the lowest.");
        is("the first of five", turns().winner(), 1);
        is("the first of ten", full().winner(), 0);
        says("Throws `NoSuchElementException` if there is none");
        is("of none kept", answer(new Mostwell(), Mostwell::winner), NONE);
        refused(EdgesTest::contested, "of none kept", NONE, Mostwell::winner);
        refused(EdgesTest::ring, "of a ring of ten", NONE, Mostwell::winner);
    }

    private static void leadLength() {
        under("Promise 24");
        says("Returns the length of the shortest row by which a kept matching leads to another one.");
        Mostwell x = ring();
        is("one step", x.leadLength(8, 9), 1);
        is("nine steps", x.leadLength(0, 9), 9);
        Mostwell y = turns();
        is("one step past the nearest ones", y.leadLength(0, 9), 1);
        says(A_KEPT_ONE);
        is("the first one and the last one", x.leadLength(0, 5) + " " + x.leadLength(9, 5), "5 6");
        says("`other`: another one, or the same");
        is("the first one and the last one", x.leadLength(5, 0) + " " + x.leadLength(5, 9), "5 4");
        is("the same", x.leadLength(0, 0) + " " + x.leadLength(9, 9), "10 10");
        says("Returns the length, at least 1.");
        is("from the last one to the first one", x.leadLength(9, 0), 1);
        Mostwell three = threeInARing();
        is("the same of three", three.leadLength(2, 2), 3);
        says("Throws `IndexOutOfBoundsException` if there is no such kept one, for either");
        noneBeyond(EdgesTest::small, "kept one", 2, (z, k) -> z.leadLength(k, 0));
        noneBeyond(EdgesTest::small, "other kept one", 2, (z, k) -> z.leadLength(1, k));
        noneBeyond(EdgesTest::full, "kept one of ten", 10, (z, k) -> z.leadLength(k, 0));
        noneBeyond(EdgesTest::full, "other kept one of ten", 10, (z, k) -> z.leadLength(0, k));
        noneBeyond(Mostwell::new, "kept one of none", 0, (z, k) -> z.leadLength(k, k));
        says("Throws `NoSuchElementException` if it does not lead there");
        refused(EdgesTest::turns, "to one that it beats", NONE, z -> z.leadLength(1, 0));
        refused(EdgesTest::turns, "to itself", NONE, z -> z.leadLength(0, 0));
        refused(EdgesTest::full, "to one that ties it", NONE, z -> z.leadLength(0, 9));
        three.setWeight(0, 9);
        is("when the ring is open", answer(three, z -> z.leadLength(2, 2)), NONE);
    }

    private static Mostwell threeInARing() {
        Mostwell x = contested();
        keepOne(x, 0, 1, 2);
        keepOne(x, 2, 0, 1);
        keepOne(x, 1, 2, 0);
        return x;
    }

    private static void hasCycle() {
        under("Promise 25");
        says("Tells whether some kept matching leads to itself.");
        is("in a ring of ten", ring().hasCycle(), true);
        is("in a ring of three", threeInARing().hasCycle(), true);
        Mostwell late = contested();
        keepOne(late, -1, -1, -1);
        keepOne(late, 0, 1, 2);
        keepOne(late, 2, 0, 1);
        is("in no ring yet", late.hasCycle(), false);
        keepOne(late, 1, 2, 0);
        is("in a ring that the first one is not in", late.hasCycle(), true);
        says("Returns whether one does.");
        is("of none kept", new Mostwell().hasCycle(), false);
        is("of ten that tie", full().hasCycle(), false);
        is("of ten by turns", turns().hasCycle(), false);
        Mostwell open = threeInARing();
        open.setWeight(0, 4);
        is("in a ring of three when one weighs as much as the others", open.hasCycle(), false);
        open.setWeight(0, 3);
        is("when it weighs one less", open.hasCycle(), true);
    }

    // ---- promises 26 to 35: challengers, popular ones, profiles

    private static void worstMargin() {
        under("Promise 26");
        says("Returns the greatest margin against the matching in hand.");
        Mostwell x = tens();
        is("against nobody", x.worstMargin(), 90);
        give(x, 0, 1, 2, 3, 4, 5, 6, 7, 8, 9);
        is("when eight move up by one and one goes back", x.worstMargin(), 63);
        says("Returns the margin.");
        is("of nobody at all", new Mostwell().worstMargin(), 0);
        is("without posts", house(new int[] {}, "", "").worstMargin(), 0);
        is("without lists", house(new int[] {1}, "", "").worstMargin(), 0);
        Mostwell two = give(house(new int[] {1}, "a", "a"), 0, -1);
        is("0 when others can only tie", two.worstMargin(), 0);
        two.setWeight(1, 3);
        is("1 when one weighs one more", two.worstMargin(), 1);
        Mostwell stale = give(house(new int[] {2}, "a", "a"), 0, 0);
        stale.keep();
        stale.release(1);
        stale.setPlaces(0, 1);
        is("by matchings of now alone", stale.worstMargin(), 0);
    }

    private static void challenger() {
        under("Promise 27");
        says("Returns what an applicant has in the challenger.");
        Mostwell x = give(tens(), 0, 1, 2, 3, 4, 5, 6, 7, 8, 9);
        is("the first who goes back, and those who move up", told(10, x, Mostwell::challenger), "8 0 1 2 3 4 5 6 7 9");
        says(AN_APPLICANT);
        is("the first one and the last one of ten", x.challenger(0) + " " + x.challenger(9), "8 9");
        says(POST_OR_NONE);
        Mostwell one = house(new int[] {1}, "a", "a", "");
        is("of nobody", told(3, one, Mostwell::challenger), "0 -1 -1");
        give(one, -1, 0, -1);
        is("of like margins the first one, not the one in hand", told(3, one, Mostwell::challenger), "0 -1 -1");
        one.setWeight(1, 3);
        is("of the greatest margin, 0", told(3, one, Mostwell::challenger), "-1 0 -1");
        says(NO_APPLICANT);
        noneBeyond(EdgesTest::small, "applicant", 3, Mostwell::challenger);
        noneBeyond(EdgesTest::full, "applicant of ten", 10, Mostwell::challenger);
        noneBeyond(Mostwell::new, "applicant of none", 0, Mostwell::challenger);
    }

    private static void isPopular() {
        under("Promise 28");
        says("Tells whether the matching in hand is popular.");
        is("nobody when there is a place", house(new int[] {1}, "a").isPopular(), false);
        is("one who has it", give(house(new int[] {1}, "a"), 0).isPopular(), true);
        is("ten who can move up", full().isPopular(), false);
        says("Returns whether it is.");
        is("without anybody", new Mostwell().isPopular(), true);
        is("without lists", house(new int[] {1}, "").isPopular(), true);
        Mostwell two = give(unlike(), 1, 2, 0);
        is("with unlike weights, when 3 and 2 are for others and 2 against", two.isPopular(), false);
        two.setWeight(2, 4);
        is("when 4 are against and 4 for it", two.isPopular(), true);
    }

    private static void hasPopular() {
        under("Promise 29");
        says("Tells whether there is a popular matching.");
        is("of three lists alike", contested().hasPopular(), false);
        is("of two lists alike", house(new int[] {1, 1}, "a>b", "a>b").hasPopular(), true);
        is("of ten lists alike", tens().hasPopular(), false);
        says("Returns whether there is one.");
        is("without anybody", new Mostwell().hasPopular(), true);
        is("without posts", house(new int[] {}, "").hasPopular(), true);
        is("without lists", house(new int[] {1}, "", "").hasPopular(), true);
        Mostwell places = contested();
        places.setPlaces(1, 2);
        is("with a place more for the second choice", places.hasPopular(), true);
        Mostwell third = contested();
        third.setRank(2, 1, 0);
        is("when one has another second choice", third.hasPopular(), true);
        says(UNLIKE_WEIGHTS);
        refused(EdgesTest::unlike, "the last one weighs more", UNSUPPORTED, Mostwell::hasPopular);
        Mostwell ten = tens();
        ten.setWeight(9, 8);
        is("the last one of ten weighs less", answer(ten, Mostwell::hasPopular), UNSUPPORTED);
        ten.setWeight(9, 9);
        ten.setWeight(0, 8);
        is("the first one of ten weighs less", answer(ten, Mostwell::hasPopular), UNSUPPORTED);
        for (int a = 0; a < 10; a++) {
            ten.setWeight(a, 8);
        }
        is("all weigh less", ten.hasPopular(), false);
        Mostwell two = house(new int[] {}, "", "");
        two.setWeight(0, 1);
        is("unlike ones without lists", answer(two, Mostwell::hasPopular), UNSUPPORTED);
    }

    private static void popularPost() {
        under("Promise 30");
        says("Returns what an applicant has in the first popular matching, by order.");
        is("of two lists alike", told(2, house(new int[] {1, 1}, "a>b", "a>b"), Mostwell::popularPost), "0 1");
        is("of ranks alike", told(2, house(new int[] {1, 1}, "a=b", "a=b"), Mostwell::popularPost), "0 1");
        is("the first one goes back for the second one", told(2, house(new int[] {1, 1}, "a=b", "a"),
            Mostwell::popularPost), "1 0");
        secondChoices();
        says(AN_APPLICANT);
        Mostwell x = new Mostwell();
        for (int i = 0; i < 10; i++) {
            x.addPost(1);
            x.addApplicant(9);
            x.setRank(i, i, 9);
        }
        is("the first one and the last one of ten", x.popularPost(0) + " " + x.popularPost(9), "0 9");
        says(POST_OR_NONE);
        is("one place for two", told(3, house(new int[] {1}, "a", "a", ""), Mostwell::popularPost), "0 -1 -1");
        is("without posts", house(new int[] {}, "").popularPost(0), -1);
        says(NO_APPLICANT);
        noneBeyond(EdgesTest::small, "applicant", 3, Mostwell::popularPost);
        noneBeyond(EdgesTest::unlike, "applicant of unlike ones", 3, Mostwell::popularPost);
        noneBeyond(EdgesTest::full, "applicant of ten", 10, Mostwell::popularPost);
        noneBeyond(Mostwell::new, "applicant of none", 0, Mostwell::popularPost);
        says(UNLIKE_WEIGHTS);
        refused(EdgesTest::unlike, "the last one weighs more", UNSUPPORTED, y -> y.popularPost(0));
        x.setWeight(9, 1);
        is("ten with first choices, the last one weighing less", answer(x, y -> y.popularPost(0)), UNSUPPORTED);
        says("Throws `NoSuchElementException` if there is no popular one");
        refused(EdgesTest::contested, "three lists alike", NONE, y -> y.popularPost(0));
        refused(EdgesTest::full, "ten lists alike", NONE, y -> y.popularPost(9));
    }

    /** Who has no first choice has the best post that those with first choices can leave to it. */
    private static void secondChoices() {
        Mostwell free = house(new int[] {1, 1, 1}, "c>a", "c>a");
        is("the first post is free", told(2, free, Mostwell::popularPost), "0 2");
        Mostwell left = house(new int[] {1, 1, 1}, "a=b", "c>a", "c>a");
        is("the first one leaves it", told(3, left, Mostwell::popularPost), "1 0 2");
        Mostwell twice = house(new int[] {1, 1, 1, 1}, "a=b", "b=d", "c>a", "c>a");
        is("the second one leaves one for the first one", told(4, twice, Mostwell::popularPost), "1 3 0 2");
        Mostwell back = house(new int[] {1, 1, 1, 1}, "a=d", "a=b", "c>b", "c>b");
        is("the first one leaves one for the second one", told(4, back, Mostwell::popularPost), "3 0 1 2");
    }

    private static void profile() {
        under("Promise 31");
        says("Returns how many have a rank in hand.");
        Mostwell x = full();
        is("of ten", told(9, x, (y, r) -> y.profile(r + 1)), "1 1 1 1 1 1 1 1 2");
        says("`rank`: 1 to 9");
        onlyWithin(EdgesTest::full, 1, 9, (y, rank) -> y.profile(rank));
        says("Returns how many.");
        for (int a = 0; a < 10; a++) {
            x.setRank(a, a, 9);
        }
        is("all have rank 9", x.profile(9) + " " + x.profile(1), "10 0");
        give(x, -1, -1, -1, -1, -1, -1, -1, -1, -1, -1);
        is("nobody has rank 9", x.profile(9), 0);
        is("without anybody", new Mostwell().profile(1), 0);
        says(OUT_OF_RANGE);
        refused(Mostwell::new, "rank 0", ARGUMENT, y -> y.profile(0));
        refused(Mostwell::new, "rank 10", ARGUMENT, y -> y.profile(10));
    }

    private static void bestProfile() {
        under("Promise 32");
        says("Returns how many have a rank in the best matching.");
        Mostwell x = tens();
        is("of ten", told(9, x, (y, r) -> y.bestProfile(r + 1)), "1 1 1 1 1 1 1 1 2");
        says("`rank`: 1 to 9");
        onlyWithin(EdgesTest::full, 1, 9, (y, rank) -> y.bestProfile(rank));
        says("Returns how many.");
        for (int a = 0; a < 10; a++) {
            x.setRank(a, a, 1);
        }
        is("all have rank 1", told(9, x, (y, r) -> y.bestProfile(r + 1)), "10 0 0 0 0 0 0 0 0");
        is("without anybody", new Mostwell().bestProfile(1), 0);
        is("without lists", house(new int[] {1}, "").bestProfile(9), 0);
        Mostwell four = house(new int[] {4}, "a", "a", "a", "a", "a");
        is("five want four places", four.bestProfile(1), 4);
        says(OUT_OF_RANGE);
        refused(Mostwell::new, "rank 0", ARGUMENT, y -> y.bestProfile(0));
        refused(Mostwell::new, "rank 10", ARGUMENT, y -> y.bestProfile(10));
    }

    private static void bestPost() {
        under("Promise 33");
        says("Returns what an applicant has in the best matching.");
        is("three lists alike", told(3, contested(), Mostwell::bestPost), "0 1 2");
        Mostwell x = house(new int[] {1, 1}, "a>b", "a");
        is("a rank 2 more", told(2, x, Mostwell::bestPost), "1 0");
        x.setWeight(0, 9);
        is("whatever the weights", told(2, x, Mostwell::bestPost), "1 0");
        give(x, 0);
        is("whatever is in hand", told(2, x, Mostwell::bestPost), "1 0");
        Mostwell asked = give(house(new int[] {1}, "a", "a"), -1, 0);
        is("whatever was asked before", asked.worstMargin() + ": " + told(2, asked, Mostwell::bestPost), "0: 0 -1");
        says(AN_APPLICANT);
        is("the first one and the last one of ten", tens().bestPost(0) + " " + tens().bestPost(9), "0 9");
        says(POST_OR_NONE);
        is("one place for two", told(3, house(new int[] {1}, "a", "a", ""), Mostwell::bestPost), "0 -1 -1");
        is("without posts", house(new int[] {}, "").bestPost(0), -1);
        says(NO_APPLICANT);
        noneBeyond(EdgesTest::small, "applicant", 3, Mostwell::bestPost);
        noneBeyond(EdgesTest::full, "applicant of ten", 10, Mostwell::bestPost);
        noneBeyond(Mostwell::new, "applicant of none", 0, Mostwell::bestPost);
    }

    private static void isSure() {
        under("Promise 34");
        says("Tells whether an applicant is sure of a post.");
        Mostwell x = house(new int[] {1, 1}, "a", "a", "b>a");
        is("two of one place, and one of another", told(3, x, Mostwell::isSure), "false false true");
        says(AN_APPLICANT);
        is("the first one and the last one of ten", tens().isSure(0) + " " + tens().isSure(9), "true true");
        says("Returns whether it is.");
        is("one with an empty list", house(new int[] {1}, "").isSure(0), false);
        is("one without posts", house(new int[] {}, "").isSure(0), false);
        is("one alone", house(new int[] {1}, "a").isSure(0), true);
        Mostwell ranks = house(new int[] {1}, "", "");
        ranks.setRank(0, 0, 9);
        ranks.setRank(1, 0, 8);
        is("rank 9 against rank 8", told(2, ranks, Mostwell::isSure), "false true");
        ranks.setRank(1, 0, 9);
        is("rank 9 against rank 9", told(2, ranks, Mostwell::isSure), "false false");
        Mostwell ten = new Mostwell();
        for (int i = 0; i < 10; i++) {
            ten.addApplicant(9);
            ten.addPost(i < 9 ? 1 : 4);
        }
        for (int a = 0; a < 10; a++) {
            for (int p = 0; p < 9; p++) {
                ten.setRank(a, p, 1);
            }
        }
        is("nine places for ten", told(10, ten, Mostwell::isSure).contains("true"), false);
        ten.setRank(4, 9, 1);
        is("ten places for ten", told(10, ten, Mostwell::isSure).contains("false"), false);
        says(NO_APPLICANT);
        noneBeyond(EdgesTest::small, "applicant", 3, Mostwell::isSure);
        noneBeyond(EdgesTest::full, "applicant of ten", 10, Mostwell::isSure);
        noneBeyond(Mostwell::new, "applicant of none", 0, Mostwell::isSure);
    }

    private static void gains() {
        under("Promise 35");
        says("Tells whether an applicant gains by a post.");
        Mostwell x = tens();
        long before = x.checksum();
        is("those who gain by the best post, as then nobody is without one", told(10, x, (y, a) -> y.gains(a, 0)),
            "false true true true true true true true true true");
        is("those who gain by a post of the last rank", told(10, x, (y, a) -> y.gains(a, 8)),
            "false false false false false false false false false false");
        is("nothing changes", x.checksum(), before);
        says(AN_APPLICANT);
        Mostwell ends = tens();
        ends.setRank(9, 4, 1);
        is("the last one who told a rank 1 has it all the same", ends.gains(9, 4), false);
        ends.setRank(9, 4, 5);
        ends.setPlaces(9, 4);
        is("the last one does not gain by the last post", ends.gains(9, 9), false);
        says(A_POST);
        Mostwell wide = house(new int[] {1, 1, 1, 1, 1, 1, 1, 1, 1, 1}, "a=j", "a>j", "j>a");
        is("the best", told(3, wide, Mostwell::bestPost), "0 -1 9");
        is("the first one of ten, which an earlier one has all the same", wide.gains(1, 0), false);
        is("the last one of ten, ahead of a later one", wide.gains(1, 9), true);
        says("Returns whether it does.");
        is("one who has its first choice", wide.gains(2, 9) + " " + wide.gains(2, 0), "false false");
        is("one who has one of two first choices", wide.gains(0, 0) + " " + wide.gains(0, 9), "false false");
        is("a post off its list", wide.gains(1, 5), false);
        says(NEITHER);
        noneBeyond(EdgesTest::small, "applicant", 3, (y, a) -> y.gains(a, 0));
        noneBeyond(EdgesTest::small, "post", 3, (y, p) -> y.gains(0, p));
        noneBeyond(EdgesTest::full, "applicant of ten", 10, (y, a) -> y.gains(a, 0));
        noneBeyond(EdgesTest::full, "post of ten", 10, (y, p) -> y.gains(0, p));
        noneBeyond(Mostwell::new, "applicant of none", 0, (y, a) -> y.gains(a, 0));
    }

    // ---- promises 36 to 41: envy, shares, sums

    private static void envies() {
        under("Promise 36");
        says("Tells whether an applicant envies another one.");
        Mostwell x = give(house(new int[] {1, 1}, "a>b", "a>b", "a"), 0, 1, -1);
        is("the second one the first one", x.envies(1, 0), true);
        is("the first one the second one", x.envies(0, 1), false);
        is("one who has none", x.envies(2, 0), true);
        says(AN_APPLICANT);
        is("the first one and the last one of ten", full().envies(0, 5) + " " + full().envies(9, 5), "false true");
        says("`other`: another one, or the same");
        is("the first one and the last one of ten", full().envies(5, 0) + " " + full().envies(5, 9), "true false");
        is("the same", told(10, full(), (y, a) -> y.envies(a, a)).contains("true"), false);
        says("Returns whether it does.");
        is("of like ranks, 9", full().envies(9, 8) + " " + full().envies(8, 9), "false false");
        is("one who has none the other one who has none", house(new int[] {1}, "a", "a").envies(0, 1), false);
        says("Throws `IndexOutOfBoundsException` if there is no such applicant, for either");
        noneBeyond(EdgesTest::small, "applicant", 3, (y, a) -> y.envies(a, 0));
        noneBeyond(EdgesTest::small, "other applicant", 3, (y, a) -> y.envies(0, a));
        noneBeyond(EdgesTest::full, "applicant of ten", 10, (y, a) -> y.envies(a, 0));
        noneBeyond(EdgesTest::full, "other applicant of ten", 10, (y, a) -> y.envies(0, a));
        noneBeyond(Mostwell::new, "applicant of none", 0, (y, a) -> y.envies(a, a));
    }

    private static void countEnvy() {
        under("Promise 37");
        says("Returns how many twos there are of which the first one envies the second one.");
        is("of ten lists alike, two ranks being alike", full().countEnvy(), 44);
        Mostwell both = house(new int[] {1, 1}, "a>b", "b>a");
        give(both, 1, 0);
        is("both ways", both.countEnvy(), 2);
        give(both, 0, 1);
        is("neither way", both.countEnvy(), 0);
        says("Returns how many.");
        is("without anybody", new Mostwell().countEnvy(), 0);
        is("of nobody having a post", tens().countEnvy(), 0);
        Mostwell last = tens();
        last.assign(9, 9);
        is("nine the last one", last.countEnvy(), 9);
        last.release(9);
        last.assign(0, 9);
        is("nine the first one", last.countEnvy(), 9);
        Mostwell four = tens();
        four.setPlaces(0, 4);
        give(four, 0, 0, 0, 0);
        is("six each of four", four.countEnvy(), 24);
    }

    private static void matchedShare() {
        under("Promise 38");
        says("Returns the share of applicants who have a post in hand.");
        is("all of ten", full().matchedShare(), 1.0f);
        is("nobody of ten", tens().matchedShare(), 0.0f);
        says("Returns their number divided by that of all, both converted to float.");
        is("two of three", small().matchedShare(), 2.0f / 3.0f);
        Mostwell x = tens();
        for (int a = 0; a < 10; a++) {
            is(a + " of ten", x.matchedShare(), (float) a / 10.0f);
            x.assign(a, a);
        }
        x.setRank(0, 0, 0);
        is("nine of ten, one having lost it", x.matchedShare(), 9.0f / 10.0f);
        is("one of one", give(house(new int[] {1}, "a"), 0).matchedShare(), 1.0f);
        says("Throws `ArithmeticException` if there are none");
        refused(Mostwell::new, "without anybody", ARITHMETIC, Mostwell::matchedShare);
        is("with posts alone", answer(house(new int[] {1, 1}), Mostwell::matchedShare), ARITHMETIC);
        is("one who has none", house(new int[] {1}, "a").matchedShare(), 0.0f);
    }

    private static void meanRank() {
        under("Promise 39");
        says("Returns the mean rank in hand.");
        is("of ten", full().meanRank(), 5.4);
        says("Returns the sum of ranks of those who have a post divided by their number, both converted to double.");
        Mostwell x = contested();
        x.setPlaces(0, 2);
        give(x, 0, 0, 1);
        is("of 1, 1 and 2", x.meanRank(), 4.0 / 3.0);
        x.release(0);
        is("of 1 and 2, one having none", x.meanRank(), 1.5);
        x.setRank(2, 1, 9);
        is("of 1 and 9", x.meanRank(), 5.0);
        x.release(1);
        is("of 9", x.meanRank(), 9.0);
        give(x, -1, 0, -1);
        is("of 1", x.meanRank(), 1.0);
        says("Throws `ArithmeticException` if nobody has one");
        refused(Mostwell::new, "without anybody", ARITHMETIC, Mostwell::meanRank);
        refused(EdgesTest::contested, "nobody of three", ARITHMETIC, Mostwell::meanRank);
        x.setRank(1, 0, 0);
        is("one who lost it", answer(x, Mostwell::meanRank), ARITHMETIC);
    }

    private static void checksum() {
        under("Promise 40");
        says("Returns a sum over the house.");
        Mostwell x = small();
        long before = x.checksum();
        is("the same once more", x.checksum(), before);
        x.type('a');
        is("whatever is typed", x.checksum(), before);
        says("Returns 7 at first, then for each applicant 31 times itself plus its weight, then for each post its rank, then "
            + "its post in hand, likewise; then for each post 31 times itself plus its places; then for each kept matching, "
            + "for each applicant 31 times itself plus what it has there.");
        is("at first", new Mostwell().checksum(), 7L);
        is("with posts alone", house(new int[] {4, 1}).checksum(), sum(4, 1));
        is("with applicants alone", house(new int[] {}, "", "").checksum(), sum(2, -1, 2, -1));
        is("of three, with two kept ones", before, sum(2, 1, 2, 3, 0, 2, 1, 1, 0, 0, 2, 0, 0, 1, -1, 2, 1, 1, 0, 1, 2, 0, 0, 2));
        x.addApplicant(9);
        is("with one who came later", x.checksum(), sum(2, 1, 2, 3, 0, 2, 1, 1, 0, 0, 2, 0, 0, 1, -1, 9, 0, 0, 0, -1,
            2, 1, 1, 0, 1, 2, -1, 0, 0, 2, -1));
        x.addPost(3);
        is("with a post that came later", x.checksum(), sum(2, 1, 2, 3, 0, 0, 2, 1, 1, 0, 0, 0, 2, 0, 0, 1, 0, -1,
            9, 0, 0, 0, 0, -1, 2, 1, 1, 3, 0, 1, 2, -1, 0, 0, 2, -1));
        is("round the end of a long, of ten of everything", full().checksum(), sum(partsOfFull()));
    }

    private static int[] partsOfFull() {
        int[] parts = new int[10 * 12 + 10 + 10 * 10];
        int at = 0;
        for (int a = 0; a < 10; a++) {
            parts[at++] = 9;
            for (int p = 0; p < 10; p++) {
                parts[at++] = Math.min(p + 1, 9);
            }
            parts[at++] = a;
        }
        for (int p = 0; p < 10; p++) {
            parts[at++] = 1;
        }
        for (int i = 0; i < 100; i++) {
            parts[at++] = i % 10;
        }
        return parts;
    }

    /** The sum without an end, and then what a long holds of it. */
    private static long sum(int... parts) {
        BigInteger sum = BigInteger.valueOf(7L);
        for (int part : parts) {
            sum = sum.multiply(BigInteger.valueOf(31L)).add(BigInteger.valueOf(part));
        }
        return sum.longValue();
    }

    private static void isTrue() {
        under("Promise 41");
        says("Checks that the one in hand and the best one are matchings, that the challenger has the greatest margin, that no "
            + "kept one that is a matching by now has a greater one, and that the first popular one, if weights are alike "
            + "and there is one, is beaten by no kept one that is a matching by now and not by the best one.");
        is("without anybody", new Mostwell().isTrue(), true);
        is("of ten of everything", full().isTrue(), true);
        is("with ten kept ones by turns", turns().isTrue(), true);
        is("in a ring of ten", ring().isTrue(), true);
        is("without a popular one", threeInARing().isTrue(), true);
        is("with unlike weights", unlike().isTrue(), true);
        is("with one that has too few places by now", crampedSmall().isTrue(), true);
        is("with one that has a post off a list by now", unlistedSmall().isTrue(), true);
        Mostwell stale = give(house(new int[] {4}, "a", "a", "a", "a"), 0, 0, 0, 0);
        stale.keep();
        give(stale, 0, -1, -1, -1);
        stale.setPlaces(0, 1);
        is("a kept one that is no matching by now has a greater margin", stale.margin(0, -1), 6);
        is("than the greatest one", stale.worstMargin(), 0);
        is("which is no fault", stale.isTrue(), true);
        stale.setPlaces(0, 4);
        is("when it is a matching again", stale.worstMargin(), 6);
        is("which is no fault either", stale.isTrue(), true);
        says("Returns whether all of it holds.");
        is("of nobody having a post", tens().isTrue(), true);
        is("of three", small().isTrue(), true);
    }
}
