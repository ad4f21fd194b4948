import java.util.NoSuchElementException;

/** Promise by promise: ordinary inputs, the edges that the document names, and wrong inputs. */
public final class PromisesTest {
    private static final Class<?> INDEX = IndexOutOfBoundsException.class;
    private static final Class<?> ARGUMENT = IllegalArgumentException.class;
    private static final Class<?> STATE = IllegalStateException.class;
    private static final Class<?> UNSUPPORTED = UnsupportedOperationException.class;
    private static final Class<?> NONE = NoSuchElementException.class;
    private static final Class<?> ARITHMETIC = ArithmeticException.class;
    private static final int[] FAR = {Integer.MIN_VALUE, -2, 10, 11, Integer.MAX_VALUE};

    private static int checks = 0;
    private static int wrong = 0;
    private static int promise = 0;

    private interface Call {
        Object now();
    }

    public static void main(String[] args) {
        newObject();
        adding();
        weightsAndPlaces();
        ranks();
        typing();
        telling();
        texts();
        assigning();
        keeping();
        taking();
        votes();
        agendas();
        challengers();
        popularOnes();
        profiles();
        sureOnes();
        gains();
        envy();
        shares();
        checksums();
        truth();
        throwsChangeNothing();
        fullHouse();
        System.out.println(checks + " checks, " + wrong + " wrong");
        if (wrong != 0) {
            System.exit(1);
        }
    }

    private static void is(String what, Object got, Object due) {
        checks++;
        if (!got.equals(due)) {
            wrong++;
            System.out.println("promise " + promise + ": " + what + " answered " + got + ", due is " + due);
        }
    }

    private static void fails(String what, Class<?> due, Call call) {
        Object got;
        try {
            got = call.now();
        } catch (RuntimeException e) {
            got = e.getClass();
        }
        is(what, got, due);
    }

    /** A house of like weights with posts of the given places, and lists told as texts. */
    private static Mostwell house(int[] places, String... lists) {
        Mostwell x = new Mostwell();
        for (int p : places) {
            x.addPost(p);
        }
        for (String list : lists) {
            x.addApplicant(1);
        }
        for (int a = 0; a < lists.length; a++) {
            if (!lists[a].isEmpty()) {
                typeAll(x, lists[a]);
                x.tell(a);
            }
        }
        return x;
    }

    private static void typeAll(Mostwell x, String signs) {
        for (char sign : signs.toCharArray()) {
            x.type(sign);
        }
    }

    private static void assignAll(Mostwell x, int... posts) {
        for (int a = 0; a < posts.length; a++) {
            if (x.postOf(a) >= 0) {
                x.release(a);
            }
        }
        for (int a = 0; a < posts.length; a++) {
            if (posts[a] >= 0) {
                x.assign(a, posts[a]);
            }
        }
    }

    private static void keepAll(Mostwell x, int... posts) {
        assignAll(x, posts);
        x.keep();
    }

    private static String textOf(Mostwell x, int applicant) {
        StringBuilder text = new StringBuilder();
        for (int i = 0; i < x.textLength(applicant); i++) {
            text.append(x.textAt(applicant, i));
        }
        return text.toString();
    }

    private static String challengerOf(Mostwell x, int applicants) {
        StringBuilder text = new StringBuilder();
        for (int a = 0; a < applicants; a++) {
            text.append(x.challenger(a)).append(' ');
        }
        return text.toString().trim();
    }

    private static String bestOf(Mostwell x, int applicants) {
        StringBuilder text = new StringBuilder();
        for (int a = 0; a < applicants; a++) {
            text.append(x.bestPost(a)).append(' ');
        }
        return text.toString().trim();
    }

    private static String popularOf(Mostwell x, int applicants) {
        StringBuilder text = new StringBuilder();
        for (int a = 0; a < applicants; a++) {
            text.append(x.popularPost(a)).append(' ');
        }
        return text.toString().trim();
    }

    private static void newObject() {
        promise = 1;
        Mostwell x = new Mostwell();
        is("checksum()", x.checksum(), 7L);
        is("wipe()", x.wipe(), 0);
        is("hasCycle()", x.hasCycle(), false);
        is("worstMargin()", x.worstMargin(), 0);
        is("isPopular()", x.isPopular(), true);
        is("hasPopular()", x.hasPopular(), true);
        is("countEnvy()", x.countEnvy(), 0);
        is("isTrue()", x.isTrue(), true);
        is("profile(1)", x.profile(1), 0);
        is("bestProfile(1)", x.bestProfile(1), 0);
        fails("postOf(0)", INDEX, () -> x.postOf(0));
        fails("freeOf(0)", INDEX, () -> x.freeOf(0));
        fails("take(0)", INDEX, () -> x.take(0));
        fails("winner()", NONE, () -> x.winner());
        is("votes(-1, -1)", x.votes(-1, -1), 0);
    }

    private static void adding() {
        Mostwell x = new Mostwell();
        for (int i = 0; i < 10; i++) {
            promise = 2;
            is("addApplicant", x.addApplicant(1 + i % 9), i);
            is("its list", x.textLength(i), 0);
            is("its post", x.postOf(i), -1);
            promise = 3;
            is("addPost", x.addPost(1 + i % 4), i);
            is("its places", x.freeOf(i), 1 + i % 4);
            is("its rank", x.rankOf(0, i), 0);
        }
        Mostwell y = new Mostwell();
        for (int bad : new int[] {Integer.MIN_VALUE, -1, 0, 10, Integer.MAX_VALUE}) {
            promise = 2;
            fails("addApplicant(" + bad + ") with 10", ARGUMENT, () -> x.addApplicant(bad));
            fails("addApplicant(" + bad + ")", ARGUMENT, () -> y.addApplicant(bad));
        }
        for (int bad : new int[] {Integer.MIN_VALUE, -1, 0, 5, Integer.MAX_VALUE}) {
            promise = 3;
            fails("addPost(" + bad + ") with 10", ARGUMENT, () -> x.addPost(bad));
            fails("addPost(" + bad + ")", ARGUMENT, () -> y.addPost(bad));
        }
        promise = 2;
        fails("an 11th applicant", STATE, () -> x.addApplicant(1));
        is("weight 9", y.addApplicant(9), 0);
        promise = 3;
        fails("an 11th post", STATE, () -> x.addPost(1));
        is("4 places", y.addPost(4), 0);
    }

    private static void weightsAndPlaces() {
        Mostwell x = house(new int[] {2, 1}, "a>b", "a", "a");
        promise = 4;
        is("setWeight", x.setWeight(0, 9), 1);
        is("setWeight", x.setWeight(0, 2), 9);
        for (int bad : new int[] {-1, 0, 10}) {
            fails("setWeight(0, " + bad + ")", ARGUMENT, () -> x.setWeight(0, bad));
            fails("setWeight(3, " + bad + ")", INDEX, () -> x.setWeight(3, bad));
        }
        fails("setWeight(-1, 1)", INDEX, () -> x.setWeight(-1, 1));
        is("setWeight", x.setWeight(0, 1), 2);
        promise = 5;
        assignAll(x, 0, 0, -1);
        for (int bad : new int[] {-1, 0, 5}) {
            fails("setPlaces(0, " + bad + ")", ARGUMENT, () -> x.setPlaces(0, bad));
            fails("setPlaces(2, " + bad + ")", INDEX, () -> x.setPlaces(2, bad));
        }
        fails("setPlaces(0, 1) with two", UNSUPPORTED, () -> x.setPlaces(0, 1));
        is("setPlaces(0, 2) with two", x.setPlaces(0, 2), 2);
        is("setPlaces(0, 4)", x.setPlaces(0, 4), 2);
        is("freeOf(0)", x.freeOf(0), 2);
        x.release(1);
        is("setPlaces(0, 1) with one", x.setPlaces(0, 1), 4);
        fails("setPlaces(-1, 1)", INDEX, () -> x.setPlaces(-1, 1));
    }

    private static void ranks() {
        Mostwell x = house(new int[] {1, 1}, "", "");
        promise = 6;
        is("setRank(0, 1, 9)", x.setRank(0, 1, 9), 0);
        is("setRank(0, 1, 2)", x.setRank(0, 1, 2), 9);
        for (int bad : new int[] {Integer.MIN_VALUE, -1, 10, Integer.MAX_VALUE}) {
            fails("setRank(0, 1, " + bad + ")", ARGUMENT, () -> x.setRank(0, 1, bad));
            fails("setRank(0, 2, " + bad + ")", INDEX, () -> x.setRank(0, 2, bad));
        }
        x.assign(0, 1);
        is("a new rank", x.setRank(0, 1, 5), 2);
        is("the post stays", x.postOf(0), 1);
        is("no rank", x.setRank(0, 1, 0), 5);
        is("the post is lost", x.postOf(0), -1);
        is("no rank again", x.setRank(0, 1, 0), 0);
        promise = 7;
        is("rankOf(0, 1)", x.rankOf(0, 1), 0);
        x.setRank(1, 0, 7);
        is("rankOf(1, 0)", x.rankOf(1, 0), 7);
        is("rankOf(0, 0)", x.rankOf(0, 0), 0);
        for (int bad : new int[] {-1, 2, 10, Integer.MIN_VALUE, Integer.MAX_VALUE}) {
            promise = 6;
            fails("setRank(bad, 0, 1)", INDEX, () -> x.setRank(bad, 0, 1));
            fails("setRank(0, bad, 1)", INDEX, () -> x.setRank(0, bad, 1));
            promise = 7;
            fails("rankOf(bad, 0)", INDEX, () -> x.rankOf(bad, 0));
            fails("rankOf(0, bad)", INDEX, () -> x.rankOf(0, bad));
        }
    }

    private static void typing() {
        promise = 8;
        Mostwell x = new Mostwell();
        String known = "abcdefghij>=";
        for (int i = 0; i < known.length(); i++) {
            is("type", x.type(known.charAt(i)), i + 1);
        }
        for (char bad : new char[] {'`', 'k', 'A', '<', '?', ' ', 0, 255, 0xffff}) {
            fails("type(" + (int) bad + ")", ARGUMENT, () -> x.type(bad));
        }
        promise = 9;
        is("wipe()", x.wipe(), 12);
        is("wipe() again", x.wipe(), 0);
        promise = 8;
        for (int i = 0; i < 20; i++) {
            is("type", x.type('>'), i + 1);
        }
        fails("a 21st sign", STATE, () -> x.type('a'));
        fails("a 21st sign that is none", ARGUMENT, () -> x.type('k'));
        promise = 9;
        is("wipe()", x.wipe(), 20);
        is("type after it", x.type('a'), 1);
    }

    private static void telling() {
        promise = 10;
        Mostwell x = house(new int[] {1, 1, 1, 1, 1, 1, 1, 1, 1}, "", "");
        for (String bad : new String[] {
            "", ">", "=", "a>", ">a", "ab", "a>>b", "a>=b", "a>b>a", "a=a", "a>j", "j", "a=b=", "a>b=c>", ">="}) {
            x.wipe();
            typeAll(x, bad);
            fails("tell(0) of " + bad, UNSUPPORTED, () -> x.tell(0));
            fails("tell(2) of " + bad, INDEX, () -> x.tell(2));
            fails("tell(-1) of " + bad, INDEX, () -> x.tell(-1));
            is("what stays typed of " + bad, x.wipe(), bad.length());
        }
        typeAll(x, "c>a=b>i");
        is("tell(0)", x.tell(0), 4);
        is("what is typed then", x.wipe(), 0);
        is("ranks", "" + x.rankOf(0, 0) + x.rankOf(0, 1) + x.rankOf(0, 2) + x.rankOf(0, 3) + x.rankOf(0, 8), "22103");
        x.assign(0, 2);
        typeAll(x, "b=c");
        is("tell(0) again", x.tell(0), 2);
        is("the post stays", x.postOf(0), 2);
        is("ranks", "" + x.rankOf(0, 0) + x.rankOf(0, 1) + x.rankOf(0, 2) + x.rankOf(0, 8), "0110");
        typeAll(x, "b");
        is("tell(0) of one", x.tell(0), 1);
        is("the post is lost", x.postOf(0), -1);
        is("the list of another one", x.textLength(1), 0);
        typeAll(x, "a>b>c>d>e>f>g>h>i");
        is("tell(1) of nine", x.tell(1), 9);
        is("the last rank", x.rankOf(1, 8), 9);
        x.addPost(1);
        typeAll(x, "a>b>c>d>e>f>g>h>i>j");
        fails("ten ranks", UNSUPPORTED, () -> x.tell(1));
        is("what stays typed", x.wipe(), 19);
        typeAll(x, "j>b>c>d>e>f>g>h=i>a");
        is("ten posts of nine ranks", x.tell(1), 10);
        is("its text", textOf(x, 1), "j>b>c>d>e>f>g>h=i>a");
        typeAll(x, "a>b>c>d>e>f>g>h=i>j>");
        fails("a sign too much", UNSUPPORTED, () -> x.tell(1));
    }

    private static void texts() {
        Mostwell x = house(new int[] {1, 1, 1, 1}, "", "");
        promise = 11;
        is("the length of an empty one", x.textLength(0), 0);
        x.setRank(0, 3, 9);
        is("the length of one", x.textLength(0), 1);
        x.setRank(0, 1, 4);
        x.setRank(0, 2, 9);
        x.setRank(0, 0, 4);
        is("the length of four", x.textLength(0), 7);
        promise = 12;
        is("the text", textOf(x, 0), "a=b>c=d");
        x.setRank(0, 0, 0);
        x.setRank(0, 3, 1);
        is("the text", textOf(x, 0), "d>b>c");
        is("the length", x.textLength(0), 5);
        for (int bad : new int[] {Integer.MIN_VALUE, -1, 5, 19, 20, Integer.MAX_VALUE}) {
            fails("textAt(0, " + bad + ")", NONE, () -> x.textAt(0, bad));
            fails("textAt(2, " + bad + ")", INDEX, () -> x.textAt(2, bad));
        }
        fails("textAt(1, 0)", NONE, () -> x.textAt(1, 0));
        fails("textAt(-1, 0)", INDEX, () -> x.textAt(-1, 0));
        promise = 11;
        for (int bad : FAR) {
            fails("textLength(" + bad + ")", INDEX, () -> x.textLength(bad));
        }
    }

    private static void assigning() {
        Mostwell x = house(new int[] {2, 1, 1}, "a>b", "a>b", "a", "");
        promise = 13;
        is("assign(0, 1)", x.assign(0, 1), -1);
        fails("assign(0, 1) again", UNSUPPORTED, () -> x.assign(0, 1));
        fails("assign(0, 2)", UNSUPPORTED, () -> x.assign(0, 2));
        fails("assign(1, 1), taken", UNSUPPORTED, () -> x.assign(1, 1));
        is("assign(0, 0)", x.assign(0, 0), 1);
        is("assign(1, 1), free again", x.assign(1, 1), -1);
        is("assign(2, 0), the second place", x.assign(2, 0), -1);
        fails("assign(1, 0), full", UNSUPPORTED, () -> x.assign(1, 0));
        fails("assign(4, 0)", INDEX, () -> x.assign(4, 0));
        fails("assign(-1, 0)", INDEX, () -> x.assign(-1, 0));
        fails("assign(0, 3)", INDEX, () -> x.assign(0, 3));
        fails("assign(0, -1)", INDEX, () -> x.assign(0, -1));
        promise = 15;
        is("postOf", "" + x.postOf(0) + x.postOf(1) + x.postOf(2) + x.postOf(3), "010-1");
        fails("postOf(4)", INDEX, () -> x.postOf(4));
        fails("postOf(-1)", INDEX, () -> x.postOf(-1));
        promise = 16;
        is("freeOf", "" + x.freeOf(0) + x.freeOf(1) + x.freeOf(2), "001");
        fails("freeOf(3)", INDEX, () -> x.freeOf(3));
        fails("freeOf(-1)", INDEX, () -> x.freeOf(-1));
        promise = 14;
        is("release(1)", x.release(1), 1);
        is("postOf(1)", x.postOf(1), -1);
        is("freeOf(1)", x.freeOf(1), 1);
        fails("release(1) again", NONE, () -> x.release(1));
        fails("release(4)", INDEX, () -> x.release(4));
        fails("release(-1)", INDEX, () -> x.release(-1));
        promise = 16;
        x.setRank(0, 0, 0);
        is("freeOf(0) when a list loses it", x.freeOf(0), 1);
    }

    private static void keeping() {
        Mostwell x = house(new int[] {1, 1}, "a>b", "b");
        promise = 17;
        x.assign(0, 0);
        is("keep()", x.keep(), 0);
        x.assign(0, 1);
        for (int k = 1; k < 10; k++) {
            is("keep()", x.keep(), k);
        }
        fails("keep() of an 11th", STATE, () -> x.keep());
        promise = 19;
        is("keptPost", "" + x.keptPost(0, 0) + x.keptPost(0, 1) + x.keptPost(1, 0) + x.keptPost(9, 0), "0-111");
        x.addApplicant(1);
        is("keptPost of one who came later", x.keptPost(0, 2), -1);
        x.setRank(0, 0, 0);
        is("keptPost of a post that is off the list", x.keptPost(0, 0), 0);
        fails("keptPost(10, 0)", INDEX, () -> x.keptPost(10, 0));
        fails("keptPost(-1, 0)", INDEX, () -> x.keptPost(-1, 0));
        fails("keptPost(0, 3)", INDEX, () -> x.keptPost(0, 3));
        fails("keptPost(0, -1)", INDEX, () -> x.keptPost(0, -1));
    }

    private static void taking() {
        Mostwell x = house(new int[] {2, 1}, "a>b", "a>b", "");
        promise = 18;
        keepAll(x, 0, 0, -1);
        keepAll(x, -1, 1, -1);
        x.addApplicant(1);
        x.setRank(3, 0, 1);
        x.assign(3, 0);
        is("take(0)", x.take(0), 2);
        is("what is in hand", "" + x.postOf(0) + x.postOf(1) + x.postOf(2) + x.postOf(3), "00-1-1");
        is("take(1)", x.take(1), 1);
        x.setPlaces(0, 1);
        fails("take(0) with too few places", UNSUPPORTED, () -> x.take(0));
        is("what stays in hand", "" + x.postOf(0) + x.postOf(1), "-11");
        x.setPlaces(0, 2);
        x.setRank(1, 0, 0);
        fails("take(0) with a post off a list", UNSUPPORTED, () -> x.take(0));
        x.setRank(1, 0, 9);
        is("take(0)", x.take(0), 2);
        x.release(0);
        is("the kept one stays", x.keptPost(0, 0), 0);
        for (int bad : new int[] {-1, 2, 10, Integer.MIN_VALUE}) {
            fails("take(" + bad + ")", INDEX, () -> x.take(bad));
        }
    }

    private static void votes() {
        Mostwell x = house(new int[] {1, 1, 2}, "a>b>c", "a>b>c", "b=a>c");
        x.setWeight(0, 5);
        x.setWeight(1, 3);
        keepAll(x, 0, 1, 2);
        keepAll(x, 1, 0, -1);
        assignAll(x, -1, -1, 0);
        promise = 20;
        is("votes(0, 1)", x.votes(0, 1), 6);
        is("votes(1, 0)", x.votes(1, 0), 3);
        is("votes(0, 0)", x.votes(0, 0), 0);
        is("votes(-1, 0)", x.votes(-1, 0), 1);
        is("votes(0, -1)", x.votes(0, -1), 8);
        promise = 21;
        is("margin(0, 1)", x.margin(0, 1), 3);
        is("margin(1, 0)", x.margin(1, 0), -3);
        is("margin(-1, 0)", x.margin(-1, 0), -7);
        is("margin(1, 1)", x.margin(1, 1), 0);
        promise = 22;
        is("differ(0, 1)", x.differ(0, 1), 3);
        is("differ(-1, 0)", x.differ(-1, 0), 3);
        is("differ(1, 1)", x.differ(1, 1), 0);
        assignAll(x, 0, 2, 1);
        is("differ(-1, 0)", x.differ(-1, 0), 2);
        promise = 20;
        is("votes between like ranks", x.votes(-1, 1), 6);
        x.setRank(0, 0, 0);
        is("a post that is off the list counts like none", x.votes(1, 0), 8);
        x.setRank(0, 0, 2);
        is("a tie has no votes", x.votes(0, 1) + x.votes(1, 0), 4);
        for (int bad : new int[] {Integer.MIN_VALUE, -2, 2, 10, Integer.MAX_VALUE}) {
            promise = 20;
            fails("votes(bad, 0)", INDEX, () -> x.votes(bad, 0));
            fails("votes(0, bad)", INDEX, () -> x.votes(0, bad));
            promise = 21;
            fails("margin(bad, 0)", INDEX, () -> x.margin(bad, -1));
            fails("margin(0, bad)", INDEX, () -> x.margin(-1, bad));
            promise = 22;
            fails("differ(bad, 0)", INDEX, () -> x.differ(bad, 0));
            fails("differ(0, bad)", INDEX, () -> x.differ(0, bad));
        }
    }

    private static void agendas() {
        Mostwell x = house(new int[] {1, 1, 1}, "a>b>c", "a>b>c", "a>b>c");
        promise = 25;
        is("hasCycle() with none", x.hasCycle(), false);
        keepAll(x, 0, 1, 2);
        promise = 23;
        is("winner() of one", x.winner(), 0);
        promise = 24;
        fails("leadLength(0, 0) of one", NONE, () -> x.leadLength(0, 0));
        keepAll(x, 2, 0, 1);
        promise = 23;
        is("winner() of two", x.winner(), 1);
        promise = 24;
        is("leadLength(0, 1)", x.leadLength(0, 1), 1);
        fails("leadLength(1, 0)", NONE, () -> x.leadLength(1, 0));
        promise = 25;
        is("hasCycle() of two", x.hasCycle(), false);
        keepAll(x, 1, 2, 0);
        keepAll(x, -1, -1, -1);
        promise = 23;
        fails("winner() of a cycle", NONE, () -> x.winner());
        promise = 24;
        is("leadLength(0, 2)", x.leadLength(0, 2), 2);
        is("leadLength(0, 0)", x.leadLength(0, 0), 3);
        is("leadLength(3, 1)", x.leadLength(3, 1), 1);
        fails("leadLength(0, 3)", NONE, () -> x.leadLength(0, 3));
        fails("leadLength(3, 3)", NONE, () -> x.leadLength(3, 3));
        fails("leadLength(4, 0)", INDEX, () -> x.leadLength(4, 0));
        fails("leadLength(0, 4)", INDEX, () -> x.leadLength(0, 4));
        fails("leadLength(-1, 0)", INDEX, () -> x.leadLength(-1, 0));
        fails("leadLength(0, -1)", INDEX, () -> x.leadLength(0, -1));
        promise = 25;
        is("hasCycle()", x.hasCycle(), true);
        promise = 23;
        x.setWeight(2, 3);
        is("winner() when one weighs more than two", x.winner(), 2);
        promise = 25;
        is("hasCycle() then", x.hasCycle(), false);
        longCycle();
    }

    /** Four in a ring, each beaten by the next one alone or tied: the shortest row has four steps. */
    private static void longCycle() {
        promise = 24;
        Mostwell x = house(new int[] {1, 1, 1, 1}, "a>b>c>d", "a>b>c>d", "a>b>c>d", "a>b>c>d");
        keepAll(x, 0, 1, 2, 3);
        keepAll(x, 3, 0, 1, 2);
        keepAll(x, 2, 3, 0, 1);
        keepAll(x, 1, 2, 3, 0);
        is("leadLength(0, 3)", x.leadLength(0, 3), 3);
        is("leadLength(1, 1)", x.leadLength(1, 1), 4);
        promise = 25;
        is("hasCycle() of four", x.hasCycle(), true);
        promise = 23;
        Mostwell y = house(new int[] {1, 1}, "a=b", "a=b");
        keepAll(y, -1, -1);
        keepAll(y, 1, 0);
        keepAll(y, 0, 1);
        is("winner() of two unbeaten ones", y.winner(), 1);
    }

    private static void challengers() {
        Mostwell x = house(new int[] {1, 1, 1}, "a>b>c", "a>b>c", "a>b>c");
        promise = 26;
        is("worstMargin() of nobody", x.worstMargin(), 3);
        promise = 27;
        is("the challenger of nobody", challengerOf(x, 3), "0 1 2");
        assignAll(x, 0, 1, 2);
        promise = 26;
        is("worstMargin()", x.worstMargin(), 1);
        promise = 27;
        is("the challenger", challengerOf(x, 3), "2 0 1");
        promise = 28;
        is("isPopular()", x.isPopular(), false);
        promise = 26;
        x.setWeight(0, 9);
        is("worstMargin() when the first one weighs most", x.worstMargin(), 0);
        promise = 28;
        is("isPopular() with unlike weights", x.isPopular(), true);
        promise = 27;
        is("the challenger of an unbeaten one", challengerOf(x, 3), "0 1 2");
        for (int bad : new int[] {-1, 3, 10, Integer.MIN_VALUE}) {
            fails("challenger(" + bad + ")", INDEX, () -> x.challenger(bad));
        }
        Mostwell y = house(new int[] {1, 2}, "b=a", "b", "a", "");
        assignAll(y, 1, 1, 0, -1);
        is("the first of like margins is no other than it", challengerOf(y, 4), "1 1 0 -1");
        y.release(2);
        promise = 26;
        is("worstMargin()", y.worstMargin(), 1);
        y.setWeight(2, 7);
        is("worstMargin() by weight", y.worstMargin(), 7);
        promise = 28;
        is("isPopular()", y.isPopular(), false);
        promise = 27;
        Mostwell z = house(new int[] {1, 1}, "a=b", "a=b");
        assignAll(z, 1, 0);
        is("of like margins the first by order", challengerOf(z, 2), "0 1");
        z.setPlaces(0, 2);
        is("with two places", challengerOf(z, 2), "0 0");
        wholeHouse();
    }

    /** Ten of each, all lists alike: the one who has the best post is against all others moving up. */
    private static void wholeHouse() {
        Mostwell x = house(new int[] {1, 1, 1, 1, 1, 1, 1, 1, 1, 1});
        for (int a = 0; a < 10; a++) {
            x.addApplicant(9);
            for (int p = 0; p < 10; p++) {
                x.setRank(a, p, p == 9 ? 9 : p + 1);
            }
        }
        for (int a = 0; a < 10; a++) {
            x.assign(a, a);
        }
        promise = 26;
        is("worstMargin() of ten", x.worstMargin(), 63);
        promise = 27;
        is("the challenger of ten", challengerOf(x, 10), "8 0 1 2 3 4 5 6 7 9");
        promise = 29;
        is("hasPopular() of ten", x.hasPopular(), false);
        promise = 33;
        is("the best of ten", bestOf(x, 10), "0 1 2 3 4 5 6 7 8 9");
        promise = 41;
        is("isTrue() of ten", x.isTrue(), true);
    }

    private static void popularOnes() {
        Mostwell x = house(new int[] {1, 1, 1}, "a>b>c", "a>b>c", "a>b>c");
        promise = 29;
        is("hasPopular() of like lists", x.hasPopular(), false);
        promise = 30;
        fails("popularPost(0)", NONE, () -> x.popularPost(0));
        x.setPlaces(0, 2);
        promise = 29;
        is("hasPopular() with two places", x.hasPopular(), true);
        promise = 30;
        is("the first popular one", popularOf(x, 3), "0 0 1");
        x.setPlaces(0, 1);
        x.setWeight(1, 2);
        promise = 29;
        fails("hasPopular() of unlike weights", UNSUPPORTED, () -> x.hasPopular());
        promise = 30;
        fails("popularPost(0) of unlike weights", UNSUPPORTED, () -> x.popularPost(0));
        fails("popularPost(3) of unlike weights", INDEX, () -> x.popularPost(3));
        fails("popularPost(-1)", INDEX, () -> x.popularPost(-1));
        x.setWeight(0, 2);
        x.setWeight(2, 2);
        promise = 29;
        is("hasPopular() of like weights again", x.hasPopular(), false);
        promise = 30;
        Mostwell y = house(new int[] {1, 1, 1}, "a=b>c", "a>c", "a", "");
        is("the first popular one", popularOf(y, 4), "1 0 -1 -1");
        Mostwell z = house(new int[] {1, 1, 1}, "a>b>c", "a>c", "b");
        is("a second choice that is no first one of others", popularOf(z, 3), "0 2 1");
        promise = 29;
        Mostwell e = house(new int[] {}, "", "");
        is("hasPopular() without posts", e.hasPopular(), true);
        promise = 30;
        is("popularPost(1) without posts", e.popularPost(1), -1);
    }

    private static void profiles() {
        Mostwell x = house(new int[] {1, 2, 1}, "a>b", "a>b>c", "a=b>c", "c");
        promise = 31;
        is("profile(1) of nobody", x.profile(1), 0);
        assignAll(x, 1, 1, 0, -1);
        is("profile", "" + x.profile(1) + x.profile(2) + x.profile(3) + x.profile(9), "1200");
        promise = 32;
        is("bestProfile", "" + x.bestProfile(1) + x.bestProfile(2) + x.bestProfile(3) + x.bestProfile(9), "3100");
        promise = 33;
        is("the best one", bestOf(x, 4), "0 1 1 2");
        x.setWeight(1, 9);
        is("the best one, whatever the weights", bestOf(x, 4), "0 1 1 2");
        x.setRank(1, 0, 0);
        x.setRank(0, 1, 1);
        is("the best one of like ranks", bestOf(x, 4), "0 1 1 2");
        for (int bad : new int[] {Integer.MIN_VALUE, -1, 0, 10, Integer.MAX_VALUE}) {
            promise = 31;
            fails("profile(" + bad + ")", ARGUMENT, () -> x.profile(bad));
            promise = 32;
            fails("bestProfile(" + bad + ")", ARGUMENT, () -> x.bestProfile(bad));
        }
        promise = 33;
        for (int bad : new int[] {-1, 4, 10}) {
            fails("bestPost(" + bad + ")", INDEX, () -> x.bestPost(bad));
        }
        Mostwell y = house(new int[] {1, 1}, "a>b", "a");
        is("a second rank more", bestOf(y, 2), "1 0");
        Mostwell z = house(new int[] {1, 1, 1}, "b>a", "b=c", "");
        z.setRank(2, 0, 9);
        z.setRank(2, 2, 8);
        is("rank 8 before rank 9", bestOf(z, 3), "1 2 0");
        promise = 31;
        assignAll(z, 1, 2, 0);
        is("profile(9)", z.profile(9), 1);
        promise = 32;
        is("bestProfile(9)", z.bestProfile(9), 1);
    }

    private static void sureOnes() {
        promise = 34;
        Mostwell x = house(new int[] {1, 1, 1}, "a", "a", "b>c", "");
        is("isSure", "" + x.isSure(0) + x.isSure(1) + x.isSure(2) + x.isSure(3), "falsefalsetruefalse");
        x.setRank(1, 1, 2);
        is("isSure of one with another post", x.isSure(1), false);
        is("isSure of the other one", x.isSure(0), false);
        x.setPlaces(1, 2);
        is("isSure of one with two places", x.isSure(1), true);
        is("isSure of the other one", x.isSure(0), true);
        for (int bad : FAR) {
            fails("isSure(" + bad + ")", INDEX, () -> x.isSure(bad));
        }
    }

    private static void gains() {
        promise = 35;
        Mostwell x = house(new int[] {1, 2}, "b=a", "a>b", "a>b");
        is("the best", bestOf(x, 3), "1 0 1");
        is("gains by a false list", x.gains(2, 0), true);
        is("gains of a post that it has", x.gains(1, 0), false);
        is("gains of a worse post", x.gains(1, 1), false);
        is("gains of a like post", x.gains(0, 0), false);
        typeAll(x, "b");
        x.tell(2);
        is("gains of a post off its list", x.gains(2, 0), false);
        Mostwell y = house(new int[] {1, 1, 1}, "a", "a>b", "");
        is("the best", bestOf(y, 3), "0 1 -1");
        is("gains of a post that an earlier one has all the same", y.gains(1, 0), false);
        y.setRank(0, 1, 2);
        is("the best", bestOf(y, 3), "0 1 -1");
        is("gains of a post that an earlier one leaves then", y.gains(1, 0), true);
        for (int bad : new int[] {-1, 3, 10, Integer.MIN_VALUE}) {
            fails("gains(bad, 0)", INDEX, () -> x.gains(bad, 0));
            fails("gains(0, bad)", INDEX, () -> y.gains(0, bad));
        }
        long before = y.checksum();
        y.gains(0, 0);
        is("the lists after it", y.checksum(), before);
    }

    private static void envy() {
        Mostwell x = house(new int[] {1, 2, 1}, "a>b", "a>b", "b=c", "a", "");
        promise = 37;
        is("countEnvy() of nobody", x.countEnvy(), 0);
        assignAll(x, 0, 1, 2, -1, -1);
        promise = 36;
        is("envies(1, 0)", x.envies(1, 0), true);
        is("envies(0, 1)", x.envies(0, 1), false);
        is("envies(2, 1), of like ranks", x.envies(2, 1), false);
        is("envies(3, 0), having none", x.envies(3, 0), true);
        is("envies(3, 1), off its list", x.envies(3, 1), false);
        is("envies(4, 0), off its list", x.envies(4, 0), false);
        is("envies(0, 3), who has none", x.envies(0, 3), false);
        is("envies(1, 1)", x.envies(1, 1), false);
        promise = 37;
        is("countEnvy()", x.countEnvy(), 2);
        x.release(2);
        is("countEnvy() then", x.countEnvy(), 3);
        promise = 36;
        for (int bad : new int[] {-1, 5, 10, Integer.MAX_VALUE}) {
            fails("envies(bad, 0)", INDEX, () -> x.envies(bad, 0));
            fails("envies(0, bad)", INDEX, () -> x.envies(0, bad));
        }
    }

    private static void shares() {
        Mostwell none = new Mostwell();
        promise = 38;
        fails("matchedShare() of none", ARITHMETIC, () -> none.matchedShare());
        promise = 39;
        fails("meanRank() of none", ARITHMETIC, () -> none.meanRank());
        Mostwell x = house(new int[] {1, 1, 1}, "a>b>c", "b>c>a", "c>b>a");
        promise = 38;
        is("matchedShare() of nobody", x.matchedShare(), 0.0f);
        promise = 39;
        fails("meanRank() of nobody", ARITHMETIC, () -> x.meanRank());
        assignAll(x, 2, -1, -1);
        promise = 38;
        is("matchedShare() of one", x.matchedShare(), 1.0f / 3.0f);
        promise = 39;
        is("meanRank() of one", x.meanRank(), 3.0);
        assignAll(x, 2, 0, 1);
        is("meanRank() of three", x.meanRank(), 8.0 / 3.0);
        promise = 38;
        is("matchedShare() of three", x.matchedShare(), 1.0f);
    }

    private static void checksums() {
        promise = 40;
        Mostwell x = new Mostwell();
        x.addApplicant(5);
        is("with an applicant", x.checksum(), (7L * 31 + 5) * 31 - 1);
        x.addPost(3);
        is("with a post", x.checksum(), (((7L * 31 + 5) * 31 + 0) * 31 - 1) * 31 + 3);
        x.setRank(0, 0, 8);
        x.assign(0, 0);
        long house = (((7L * 31 + 5) * 31 + 8) * 31 + 0) * 31 + 3;
        is("with a rank and a post in hand", x.checksum(), house);
        x.type('a');
        is("with a sign typed", x.checksum(), house);
        x.keep();
        x.release(0);
        x.keep();
        house = (((7L * 31 + 5) * 31 + 8) * 31 - 1) * 31 + 3;
        is("with two kept ones", x.checksum(), house * 31 * 31 + 0 - 1);
    }

    private static void truth() {
        promise = 41;
        Mostwell x = house(new int[] {1, 2, 1}, "a>b", "a>b>c", "a=b>c", "c");
        is("isTrue() at first", x.isTrue(), true);
        keepAll(x, 0, 1, 1, 2);
        keepAll(x, -1, 0, 1, -1);
        is("isTrue() with kept ones", x.isTrue(), true);
        x.setPlaces(1, 1);
        is("isTrue() with one that is no matching by now", x.isTrue(), true);
        x.setWeight(0, 3);
        is("isTrue() with unlike weights", x.isTrue(), true);
        x.setRank(0, 0, 0);
        is("isTrue() with a list that lost a post", x.isTrue(), true);
        // two kept in one place would beat the popular one, which only matchings of now may try
        Mostwell y = house(new int[] {3}, "a", "a", "a");
        keepAll(y, 0, 0, 0);
        assignAll(y, 0, -1, -1);
        y.setPlaces(0, 1);
        is("the stale one beats the one in hand", y.margin(0, -1), 2);
        is("worstMargin()", y.worstMargin(), 0);
        is("isTrue() with a stale one of too many", y.isTrue(), true);
    }

    private static void throwsChangeNothing() {
        promise = 0;
        Mostwell x = house(new int[] {1, 1}, "a>b", "a>b");
        assignAll(x, 0, 1);
        x.keep();
        typeAll(x, "a>");
        long before = x.checksum();
        fails("addApplicant(0)", ARGUMENT, () -> x.addApplicant(0));
        fails("addPost(5)", ARGUMENT, () -> x.addPost(5));
        fails("setWeight(0, 0)", ARGUMENT, () -> x.setWeight(0, 0));
        fails("setPlaces(0, 5)", ARGUMENT, () -> x.setPlaces(0, 5));
        fails("setRank(0, 0, 10)", ARGUMENT, () -> x.setRank(0, 0, 10));
        fails("type('z')", ARGUMENT, () -> x.type('z'));
        fails("tell(0)", UNSUPPORTED, () -> x.tell(0));
        fails("assign(0, 1)", UNSUPPORTED, () -> x.assign(0, 1));
        fails("release(2)", INDEX, () -> x.release(2));
        fails("take(1)", INDEX, () -> x.take(1));
        fails("gains(0, 2)", INDEX, () -> x.gains(0, 2));
        is("the house after them", x.checksum(), before);
        is("what is typed after them", x.wipe(), 2);
    }

    /** Ten of everything, so that each row is full: no call may go beyond its end. */
    private static void fullHouse() {
        promise = 0;
        Mostwell x = new Mostwell();
        for (int i = 0; i < 10; i++) {
            x.addApplicant(9);
            x.addPost(4);
        }
        for (int a = 0; a < 10; a++) {
            typeAll(x, "a>b>c>d>e>f>g>h=i=j");
            x.tell(a);
        }
        for (int k = 0; k < 10; k++) {
            for (int a = 0; a < 10; a++) {
                assignOne(x, a, (a + k) % 10);
            }
            x.keep();
        }
        // each shift by one to four posts down is beaten by the one before it, a shift by five ties
        fails("winner()", NONE, () -> x.winner());
        is("differ(0, 9)", x.differ(0, 9), 10);
        is("votes(0, 9)", x.votes(0, 9), 9);
        is("votes(9, 0)", x.votes(9, 0), 63);
        is("hasCycle()", x.hasCycle(), true);
        is("margin(0, 5)", x.margin(0, 5), 0);
        is("leadLength(1, 0)", x.leadLength(1, 0), 1);
        is("leadLength(0, 1)", x.leadLength(0, 1), 3);
        is("leadLength(1, 1)", x.leadLength(1, 1), 3);
        is("meanRank()", x.meanRank(), 5.2);
        is("matchedShare()", x.matchedShare(), 1.0f);
        is("countEnvy()", x.countEnvy(), 42);
        is("profile(8)", x.profile(8), 3);
        is("bestProfile(1)", x.bestProfile(1), 4);
        is("the best", bestOf(x, 10), "0 0 0 0 1 1 1 1 2 2");
        is("isSure(9)", x.isSure(9), true);
        is("gains(9, 0)", x.gains(9, 0), true);
        is("gains(9, 9)", x.gains(9, 9), false);
        is("worstMargin()", x.worstMargin(), 81);
        is("the length of a text", x.textLength(9), 19);
        is("take(9)", x.take(9), 10);
        is("isTrue()", x.isTrue(), true);
        fails("popularPost(9), two first choices having eight places", NONE, () -> x.popularPost(9));
        typeAll(x, "j");
        x.tell(8);
        typeAll(x, "j=i");
        x.tell(9);
        is("the first popular one", popularOf(x, 10), "0 0 0 0 1 1 1 1 9 8");
        fails("take(9), no matching by now", UNSUPPORTED, () -> x.take(9));
        is("isTrue() then", x.isTrue(), true);
    }

    private static void assignOne(Mostwell x, int applicant, int post) {
        if (x.postOf(applicant) != post) {
            x.assign(applicant, post);
        }
    }
}
