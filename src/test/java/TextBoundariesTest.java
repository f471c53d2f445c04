import java.util.ArrayList;
import java.util.Collections;
import java.util.List;

/** The boundary cases of texts (PART 1 and promises 2 to 5), one method a sentence; answers reckoned from its words. */
public final class TextBoundariesTest extends Checks {
    private static final int[] FAR = {Integer.MIN_VALUE, Integer.MIN_VALUE + 1, -2, -1, Integer.MAX_VALUE - 1, Integer.MAX_VALUE};

    public static void main(String[] args) {
        fullTape();
        loadRefused();
        loadOfTheFirstBytes();
        loadWithAFault();
        bytesOfATextOutside();
        bytesOfATextPassedOver();
        passedOverToTheEnd();
        sizesOfNames();
        sizesOfNumbers();
        signsAsLongAsTheyGo();
        wordsThatAreNoNames();
        exesInOneAnother();
        grammarGoesFirst();
        fortyDefinitions();
        sixNames();
        sixAtoms();
        sixBindings();
        eightAlts();
        sixteenNames();
        secondTime();
        nothingThere();
        askRefused();
        askWithAnotherDepth();
        askWithNothingLoaded();
        askWithAFault();
        faultOfTheLatest();
        endsTooSoon();
        finish();
    }

    private static String blanks(int count) {
        return " ".repeat(count);
    }

    /** "n" with a letter behind: as many names as wanted, none of them twice. */
    private static String names(int count) {
        StringBuilder all = new StringBuilder();
        for (int i = 0; i < count; i++) {
            all.append(i == 0 ? "" : " ").append('n').append((char) ('a' + i));
        }
        return all.toString();
    }

    private static void faultIs(House t, int kind, int place) {
        due("fault(0)", t.x.fault(0), kind);
        due("fault(1)", t.x.fault(1), place);
    }

    private static void fullTape() {
        about("promise 2: NONE when there would be more than 2,000");
        House t = new House(10);
        for (int i = 1; i <= 99; i++) {
            due("feed " + i, t.x.feed(0x20202020, 0x0A0A0A0A, 0x20202020, 0x20202020, 0x20202020), 20 * i);
        }
        due("feed 100", t.x.feed(0x20202020, 0x20202020, 0x20202020, 0x20202020, 0x623D313B), 2000);
        due("feed 101", t.x.feed(0x23232323, 0x23232323, 0x23232323, 0x23232323, 0x23232323), -1);
        due("feed 102", t.x.feed(0, 0, 0, 0, 0), -1);
        due("one byte more than there are", t.x.load(2001), -2);
        due("what was refused left no trace", t.x.load(2000), 1);
        due("the last word was read", t.x.definition(0, 10), (int) 'b');
        due("the tape is empty", t.x.feed(0, 0, 0, 0, 0), 20);
    }

    private static void loadRefused() {
        about("promise 3: -2, doing nothing, when n is below 0 or more than there are");
        House t = new House(10);
        due("load(0) of an empty tape", t.x.load(0), 0);
        due("load(1) of an empty tape", t.x.load(1), -2);
        t.tape("a=K 1;b=a;");
        t.x.load(10);
        t.ends("b", 2, 2, "K 1");
        t.tape("z");
        t.x.ask(1, 1);
        t.tape("c=1;");
        for (int n : FAR) {
            due("load(" + n + ")", t.x.load(n), -2);
        }
        due("load(21)", t.x.load(21), -2);
        faultIs(t, 2, 0);
        due("what was asked stays", t.shown(), "K 1");
        due("what was loaded stays", t.x.definition(1, 1), 4);
        due("the tape stays", t.x.feed(0, 0, 0, 0, 0), 40);
        due("its first bytes, too", t.x.load(4), 1);
        due("they were read", t.x.definition(0, 10), (int) 'c');
    }

    private static void loadOfTheFirstBytes() {
        about("promise 3: the first n bytes of the tape, which is empty then");
        House t = new House(10);
        t.tape("a=12;b=3;########   ");
        due("all but what follows", t.x.load(9), 2);
        due("empty", t.x.load(1), -2);
        t.tape("a=12;b=3;           ");
        due("all there are", t.x.load(20), 2);
        t.tape("a=12;b=3;########   ");
        due("none of them", t.x.load(0), 0);
        due("empty behind none", t.x.load(1), -2);
        due("no definitions", t.x.definition(0, 0), -1);
        t.tape("a=12;b=3;");
        due("a number that is cut", t.x.load(4), -1);
        faultIs(t, 1, 4);
        due("empty behind a fault", t.x.load(1), -2);
        t.tape("abcdefghijklm=1;");
        due("a name that is cut", t.x.load(12), -1);
        faultIs(t, 1, 12);
    }

    private static void loadWithAFault() {
        about("promise 3: NONE when there is a fault: what was stays");
        for (String text : new String[] {"c=;", "c=z;", "c=1;c=2;", "c=" + "(".repeat(20) + "1" + ")".repeat(20) + ";", "#"}) {
            House t = House.house(10, "a=K (1+1) 2;b x=x;");
            t.ends("a", 1, 2, "K . .");
            t.asked("b a", 2);
            t.x.run(3);
            List<Integer> before = allAbout(t);
            t.tape(text);
            due("load " + text, t.x.load(text.length()), -1);
            due("the tape is empty", t.x.load(1), -2);
            due("about", allAbout(t), before);
            due("a", t.x.definition(0, 1), 4);
            due("b", t.x.definition(1, 0), 1);
            due("no third one", t.x.definition(2, 0), -1);
            due("it goes on", t.x.run(100), 2);
            due("to its end", t.shown(), "K 2 2");
            t.ends("b 3", 1, 2, "3");
        }
        House u = new House(10);
        u.tape("c=;");
        due("load", u.x.load(3), -1);
        u.tape("1");
        due("nothing is loaded then", u.x.ask(1, 1), false);
    }

    private static List<Integer> allAbout(House t) {
        List<Integer> all = new ArrayList<>();
        for (int what = 0; what < 10; what++) {
            all.add(t.x.about(what));
        }
        return all;
    }

    /** The byte stands behind the ex 1, where a text can go on with many tokens. */
    private static void bytesOfATextOutside() {
        about("PART 1: bytes, 10 and 32 to 126; other bytes begin no token");
        for (int c = 0; c < 256; c++) {
            boolean passed = c == 10 || c == 32;
            boolean goesOn = c >= '0' && c <= '9' || c >= 'A' && c <= 'Z' || c == 'a';
            boolean wantsMore = "(;+-*/<".indexOf(c) >= 0;
            boolean nameless = c >= 'b' && c <= 'z';
            String text = "a=1" + (char) c + ";";
            if (passed || goesOn) {
                House.faulty(text, 0, -1);
            } else {
                House.faulty(text, nameless ? 2 : 1, wantsMore ? 4 : 3);
            }
            if (!passed) {
                House.faulty("a=1;" + (char) c, 1, c >= 'a' && c <= 'z' ? 5 : 4);
            }
        }
    }

    private static void bytesOfATextPassedOver() {
        about("PART 1: from -- to the next 10 it is passed over");
        for (int c = 32; c < 127; c++) {
            House.faulty("a=1;--" + (char) c + "#\nb=a;", 0, -1);
            House.faulty("a=1;--" + (char) c + "#", 0, -1);
        }
        House.faulty("a=1;--\n#", 1, 7);
        House.faulty("a=1;-\n-", 1, 4);
        House.faulty("a--\n\n--\n--b\n=1;", 0, -1);
        House.faulty("a=1--\n0;", 0, -1);
        House.faulty("a=1\n0;", 0, -1);
        House.faulty("a=case 1 of{1--\n->1};", 0, -1);
        House.faulty("a=case 1 of{1-- ->1};", 1, 21);
        House.faulty("a=1---\n-1;", 0, -1);
        House.faulty("a=1 - --\n-1;", 1, 9);
    }

    private static void passedOverToTheEnd() {
        about("PART 1: from -- to the end");
        House.faulty("--", 0, -1);
        House.faulty("a=1;--", 0, -1);
        House.faulty("a=1--;", 1, 6);
        House.faulty("a=1;-", 1, 4);
        House t = House.house(10, "");
        t.tape("7--1");
        due("what n cuts off is not there", t.x.ask(2, 1), false);
        faultIs(t, 1, 2);
        t.ends("7--1", 1, 2, "7");
        t.ends("--\n7", 1, 2, "7");
    }

    private static void sizesOfNames() {
        about("PART 1: names and makers, at most 12 bytes");
        for (int size = 1; size < 40; size++) {
            String name = "a" + "bC_9zZ0_".repeat(5).substring(0, size - 1);
            String maker = "A" + name.substring(1);
            boolean fits = size <= 12;
            House.faulty(name + "=1;", fits ? 0 : 1, fits ? -1 : 0);
            House.faulty("b=" + maker + ";", fits ? 0 : 1, fits ? -1 : 2);
            House.faulty("b=case 1 of{" + maker + "->1};", fits ? 0 : 1, fits ? -1 : 12);
        }
        House t = House.house(10, "abcdefghijk=1;abcdefghijkl=2;");
        t.ends("abcdefghijk-abcdefghijkl", 1, 2, "-1");
        t.ends("case Abcdefghijkl of{Abcdefghijk->1;Abcdefghijkm->2;Abcdefghijkl->3}", 1, 2, "3");
        t.ends("Abcdefghijkl", 1, 2, "Abcdefghijkl");
    }

    private static void sizesOfNumbers() {
        about("PART 1: numbers, digits, at most 9, without a 0 ahead of others");
        for (int size = 1; size < 30; size++) {
            boolean fits = size <= 9;
            House.faulty("a=" + "9".repeat(size) + ";", fits ? 0 : 1, fits ? -1 : 2);
            House.faulty("a=case 1 of{" + "1".repeat(size) + "->1};", fits ? 0 : 1, fits ? -1 : 12);
            House.faulty("a=case 1 of{-" + "1".repeat(size) + "->1};", fits ? 0 : 1, fits ? -1 : 13);
            House.faulty("a=" + "0".repeat(size) + ";", size == 1 ? 0 : 1, size == 1 ? -1 : 2);
            House.faulty("a=0" + "1".repeat(size) + ";", 1, 2);
        }
        House.faulty("a=007;", 1, 2);
        House.faulty("a=10;", 0, -1);
        House.faulty("a=0 0;", 0, -1);
        House.faulty("a=0a;", 0, -1);
        House.faulty("a=1_;", 1, 3);
        House.faulty("a=case 1 of{-0->1};", 0, -1);
        House.faulty("a=case 1 of{-01->1};", 1, 13);
        House t = House.house(10, "");
        t.ends("999999999", 1, 2, "999999999");
        t.ends("99999999", 1, 2, "99999999");
        t.ends("0", 1, 2, "0");
        t.ends("case 0-999999999 of{999999999->1;-99999999->2;-999999999->3}", 1, 2, "3");
        t.ends("case 0 of{-0->1;0->2}", 1, 2, "1");
    }

    private static void signsAsLongAsTheyGo() {
        about("PART 1: tokens, as long as they go");
        House.faulty("a=1<=2;", 0, -1);
        House.faulty("a=1< =2;", 1, 5);
        House.faulty("a=1= =2;", 1, 3);
        House.faulty("a==1;", 1, 1);
        House.faulty("a= =1;", 1, 3);
        House.faulty("a=1<==2;", 1, 5);
        House.faulty("a=1===2;", 1, 5);
        House.faulty("a=\\b- >b;", 1, 4);
        House.faulty("a=\\b->b;", 0, -1);
        House.faulty("a=1->2;", 1, 3);
        House.faulty("a=1 - 2>1;", 1, 7);
        House.faulty("a=case 1 of{_->1};", 0, -1);
        House.faulty("a=case 1 of{K a_->a_};", 0, -1);
        House.faulty("a=case 1 of{K a _->a};", 0, -1);
        House.faulty("a=case 1 of{K_->1};", 0, -1);
        House.faulty("a=_;", 1, 2);
        House.faulty("a _=1;", 1, 2);
        House.faulty("_=1;", 1, 0);
    }

    private static void wordsThatAreNoNames() {
        about("PART 1: words that are no names: let in case of");
        for (String word : new String[] {"let", "in", "case", "of"}) {
            House.faulty(word + "=1;", 1, 0);
            House.faulty("a " + word + "=1;", 1, 2);
            House.faulty("a=\\" + word + "->1;", 1, 3);
            House.faulty("a=case 1 of{K " + word + "->1};", 1, 14);
            House.faulty("a=let " + word + "=1 in 1;", 1, 6);
            House.faulty(word + "s=1;" + word + "_=1;" + word + "1=" + word + "s;", 0, -1);
            String maker = (char) (word.charAt(0) - 32) + word.substring(1);
            House.faulty("a=" + maker + ";", 0, -1);
            House.faulty("a=1 " + word, 1, 4);
        }
    }

    private static void deep(String before, String after, int times, int kind, int place) {
        House.faulty("a=" + before.repeat(times) + "1" + after.repeat(times) + ";", kind, place);
    }

    private static void exesInOneAnother() {
        about("FAULTS 3: a 21st ex would begin while 20 are begun and not ended");
        for (int times : new int[] {18, 19}) {
            deep("(", ")", times, 0, -1);
            deep("K(", ")", times, 0, -1);
            deep("case 1 of{_->", "}", times, 0, -1);
            deep("case ", " of{_->1}", times, 0, -1);
        }
        for (int times : new int[] {20, 21}) {
            deep("(", ")", times, 3, 2 + 20);
            deep("K(", ")", times, 3, 2 + 40);
            deep("case ", " of{_->1}", times, 3, 2 + 5 * 20);
            deep("let n=1 in ", "", times, 3, 2 + 11 * 19 + 6);
            deep("\\n->", "", times, 3, 2 + 4 * 20);
            deep("let n=", " in 1", times, 3, 2 + 6 * 20);
        }
        deep("case 1 of{_->", "}", 20, 3, 2 + 13 * 19 + 5);
        String nineteen = "a=" + "(".repeat(18);
        House.faulty(nineteen + "\\n->1" + ")".repeat(18) + ";", 0, -1);
        House.faulty(nineteen + "let n=1 in n" + ")".repeat(18) + ";", 0, -1);
        String twenty = "a=" + "(".repeat(19);
        String close = ")".repeat(19) + ";";
        House.faulty(twenty + "\\n->1" + close, 3, 25);
        House.faulty(twenty + "let n=1 in n" + close, 3, 27);
        House.faulty(twenty + "case 1 of{_->1}" + close, 3, 26);
        House.faulty(twenty + "1+(1)" + close, 3, 24);
        House.faulty(twenty + "1+1*K 1<1" + close, 0, -1);
        House.faulty("a=(((1)))+((1));b=" + "(".repeat(19) + "1" + close, 0, -1);
        House t = House.house(10, "");
        t.ends("(".repeat(19) + "8" + ")".repeat(19), 1, 2, "8");
        t.tape("(".repeat(20) + "8" + ")".repeat(20));
        due("ask", t.x.ask(41, 1), false);
        faultIs(t, 3, 20);
    }

    private static void grammarGoesFirst() {
        about("FAULTS: first the whole text by its grammar, along the text; if there is none: 2");
        House.faulty("a=z;b=(;", 1, 7);
        House.faulty("a=z;b=1", 1, 7);
        House.faulty("a=z;b=" + "(".repeat(20) + "1", 3, 26);
        House.faulty("a=#;b=" + "(".repeat(20) + "1", 1, 2);
        House.faulty("a=" + "(".repeat(20) + "1;#", 3, 22);
        House.faulty("a=" + "(".repeat(20) + ")", 1, 22);
        House.faulty("a=" + "(".repeat(20) + "#", 1, 22);
        House.faulty("a=" + "(".repeat(20), 1, 22);
        House.faulty("a=" + "(".repeat(19) + "1#", 1, 22);
    }

    private static String definitions(int count) {
        StringBuilder all = new StringBuilder();
        for (int k = 10; k < 10 + count; k++) {
            all.append('d').append(k).append("=1;");
        }
        return all.toString();
    }

    private static void fortyDefinitions() {
        about("FAULTS 2: too many: 40 definitions (its name)");
        for (int count : new int[] {39, 40}) {
            House t = House.house(10, definitions(count));
            due("the last one's names", t.x.definition(count - 1, 0), 0);
            due("none behind it", t.x.definition(count, 0), -1);
            House u = new House(10);
            u.tape(definitions(count));
            due("load", u.x.load(6 * count), count);
        }
        for (int count : new int[] {41, 42, 60}) {
            House.faulty(definitions(count), 2, 6 * 40);
            House.faulty(definitions(count).replace("d49=1", "d49=z"), 2, 6 * 39 + 4);
        }
        House.faulty(definitions(41).replace("d49=1", "d49=d50").replace("d10=1", "d10=d50"), 2, 6 * 40 + 4);
        House.faulty(definitions(40) + "d10=1;", 2, 6 * 40);
    }

    private static void sixNames() {
        about("FAULTS 2: too many: 6 names of a definition, binding, \\ or pattern (a _ counts)");
        for (int count = 1; count < 9; count++) {
            int kind = count <= 6 ? 0 : 2;
            String row = names(count);
            int at = count <= 6 ? -1 : 6 * 3;
            House.faulty("a " + row + "=1;", kind, count <= 6 ? -1 : 2 + at);
            House.faulty("a=\\" + row + "->1;", kind, count <= 6 ? -1 : 3 + at);
            House.faulty("a=let b " + row + "=1 in 1;", kind, count <= 6 ? -1 : 8 + at);
            House.faulty("a=case 1 of{K " + row + "->1};", kind, count <= 6 ? -1 : 14 + at);
            House.faulty("a=case 1 of{K" + " _".repeat(count) + "->1};", kind, count <= 6 ? -1 : 14 + 12);
            House.faulty("a=case 1 of{K _ " + row + "->1};", count <= 5 ? 0 : 2, count <= 5 ? -1 : 16 + 15);
        }
        House t = House.house(10, "f a b c d e g=g;");
        due("how many names", t.x.definition(0, 0), 6);
        t.ends("f 1 2 3 4 5 6", 1, 2, "6");
        t.ends("case K 1 2 3 4 5 6 of{K a b c d e->1;K _ b c d e g->g*b}", 1, 2, "12");
    }

    private static void sixAtoms() {
        about("FAULTS 2: too many: 6 atoms behind a use's first one or its maker (the atom's first token)");
        for (int count = 1; count < 9; count++) {
            int kind = count <= 6 ? 0 : 2;
            House.faulty("a=1" + " 2".repeat(count) + ";", kind, count <= 6 ? -1 : 4 + 12);
            House.faulty("a=K" + " 2".repeat(count) + ";", kind, count <= 6 ? -1 : 4 + 12);
            House.faulty("a=a" + "(2)".repeat(count) + ";", kind, count <= 6 ? -1 : 3 + 18);
            House.faulty("a=(K)" + " L".repeat(count) + ";", kind, count <= 6 ? -1 : 6 + 12);
            House.faulty("a=1+K" + " a".repeat(count) + "*2;", kind, count <= 6 ? -1 : 6 + 12);
        }
        House.faulty("a=K 1 2 3 4 5 (z) (7);", 2, 15);
        House.faulty("a=K 1 2 3 4 5 6 (z);", 2, 16);
        House t = House.house(10, "");
        t.ends("K 1 2 3 4 5 6", 2, 2, "K 1 2 3 4 5 6");
        t.ends("(\\a b c->\\d e f->a*b*c*d*e*f) 1 2 3 4 5 6", 1, 2, "720");
    }

    private static void sixBindings() {
        about("FAULTS 2: too many: 6 bindings of a let (its name)");
        for (int count = 1; count < 9; count++) {
            String bindings = String.join(";", names(count).split(" ")).replace(";", "=1;") + "=1";
            House.faulty("a=let " + bindings + " in na;", count <= 6 ? 0 : 2, count <= 6 ? -1 : 6 + 5 * 6);
        }
        House t = House.house(10, "");
        t.ends("let a=1;b=a+1;c=b+1;d=c+1;e=d+1;f=e+1 in f", 1, 2, "6");
    }

    private static void eightAlts() {
        about("FAULTS 2: too many: 8 alts (its first token)");
        for (int count = 1; count < 11; count++) {
            String alts = String.join(";", Collections.nCopies(count, "K n->1"));
            House.faulty("a=case 1 of{" + alts + "};", count <= 8 ? 0 : 2, count <= 8 ? -1 : 12 + 7 * 8);
            House.faulty("a=case 1 of{" + alts.replace("K n", "-12") + "};", count <= 8 ? 0 : 2, count <= 8 ? -1 : 12 + 7 * 8);
        }
        House t = House.house(10, "");
        t.ends("case 8 of{1->1;2->2;3->3;4->4;5->5;6->6;7->7;8->80}", 1, 2, "80");
    }

    /** Fifteen names stand behind this. */
    private static final String FIFTEEN = "a a b c d e f=\\g h i j k l->\\m n o->";

    private static void sixteenNames() {
        about("FAULTS 2: too many: 16 names that stand at one place");
        int at = FIFTEEN.length();
        House.faulty(FIFTEEN + "1;", 0, -1);
        House.faulty(FIFTEEN + "\\p->p;", 0, -1);
        House.faulty(FIFTEEN + "\\p q->p;", 2, at + 3);
        House.faulty(FIFTEEN + "\\p->\\q->p;", 2, at + 5);
        House.faulty(FIFTEEN + "(\\p->p)(\\q->q);", 0, -1);
        House.faulty(FIFTEEN + "case 1 of{p->1;q->1;K q _ _->1};", 0, -1);
        House.faulty(FIFTEEN + "case 1 of{p->1;K _ p _ q->1};", 2, at + 23);
        House.faulty(FIFTEEN + "let p=1 in p;", 0, -1);
        House.faulty(FIFTEEN + "let p=1;q=2 in p;", 2, at + 8);
        House.faulty(FIFTEEN + "let p q=1 in p;", 2, at + 6);
        about("FAULTS 2: 16 names, shadowed ones count");
        House.faulty(FIFTEEN + "\\a->a;", 0, -1);
        House.faulty(FIFTEEN + "\\a b->a;", 2, at + 3);
        House.faulty(FIFTEEN + "let a=1;b=1 in a;", 2, at + 8);
        about("FAULTS 2: 16 names, at a let's bindings also those that come behind");
        String thirteen = FIFTEEN.replace(" n o", "");
        int from = thirteen.length();
        House.faulty(thirteen + "let p=1;q=2 in \\r->1;", 0, -1);
        House.faulty(thirteen + "let p=1;q=2 in \\r s->1;", 2, from + 18);
        House.faulty(thirteen + "let p r=1;q=2 in 1;", 0, -1);
        House.faulty(thirteen + "let p r s=1;q=2 in 1;", 2, from + 8);
        House.faulty(thirteen + "let p=\\r->1;q=2 in 1;", 0, -1);
        House.faulty(thirteen + "let p=\\r s->1;q=2 in 1;", 2, from + 9);
        House.faulty(thirteen + "let p=1;q=2;r=3 in 1;", 0, -1);
        House.faulty(thirteen + "let p=1;q=2;r=3;s=4 in 1;", 2, from + 16);
        House.faulty(thirteen + "let p=1;q=2;r t=3 in 1;", 2, from + 14);
        about("FAULTS 2: 16 names, definitions do not count");
        House.faulty(FIFTEEN + "\\p->1;" + definitions(39), 0, -1);
        House t = House.house(20, FIFTEEN + "\\p->a+f+g+l+m+o+p;");
        t.ends("a 1 2 3 4 5 6 7 8 9 10 11 12 13 14 15 16".replace(" 7", ") 7").replace(" 13", ") 13").replace("a ", "((a "), 1, 2, "70");
    }

    private static void secondTime() {
        about("FAULTS 2: a name for the second time");
        House.faulty("a b c b=1;", 2, 6);
        House.faulty("a=\\b c b->1;", 2, 7);
        House.faulty("a=let f b c b=1 in 1;", 2, 12);
        House.faulty("a=case 1 of{K b c b->1};", 2, 18);
        House.faulty("a=case 1 of{K _ b _->1};", 0, -1);
        House.faulty("a=let b=1;c=2;b=3 in 1;", 2, 14);
        House.faulty("a=1;b=2;a c=3;", 2, 8);
        House.faulty("a b=\\b->let b=1 in case b of{b->b;K b->b};b=2;", 0, -1);
        House.faulty("a=let b=1 in let b=2 in b;", 0, -1);
        House.faulty("a=let b c=c;c b=b in b c;", 0, -1);
    }

    private static void nothingThere() {
        about("FAULTS 2: a name that stands for nothing there");
        House.faulty("a b=b;c=b;", 2, 8);
        House.faulty("a=let b c=c in c;", 2, 15);
        House.faulty("a=let b=c;c=b in (let d=1 in d)+d;", 2, 32);
        House.faulty("a=(\\b->b) b;", 2, 10);
        House.faulty("a=case b of{b->b};", 2, 7);
        House.faulty("a=case 1 of{K b->b;L->b};", 2, 22);
        House.faulty("a=c;c=a;", 0, -1);
        House.faulty("a=K z y;", 2, 4);
        House t = House.house(10, "a b=b;");
        t.tape("a b");
        due("a definition's own names do not stand in a question", t.x.ask(3, 1), false);
        faultIs(t, 2, 2);
    }

    /** A house in which something is asked and goes on; what is told of it must stay. */
    private static House asking() {
        House t = House.house(10, "a=K 1;b=a;");
        t.asked("b", 2);
        due("run", t.x.run(2), 1);
        return t;
    }

    private static void goesOn(House t) {
        due("steps", t.x.about(1), 2);
        due("it goes on", t.x.run(100), 2);
        due("to its end", t.shown(), "K 1");
    }

    private static void askRefused() {
        about("promise 4: false: n below 0 or more than there are");
        House t = asking();
        due("ask(1, 1) of an empty tape", t.x.ask(1, 1), false);
        faultIs(t, 0, -1);
        t.tape("z");
        for (int n : FAR) {
            due("ask(" + n + ", 1)", t.x.ask(n, 1), false);
        }
        due("ask(21, 1)", t.x.ask(21, 1), false);
        due("ask(21, 0)", t.x.ask(21, 0), false);
        faultIs(t, 0, -1);
        due("the tape stays", t.x.feed(0, 0, 0, 0, 0), 40);
        goesOn(t);
        due("its first byte is the z", t.x.ask(1, 1), false);
        faultIs(t, 2, 0);
    }

    private static void askWithAnotherDepth() {
        about("promise 4: false: another depth (the tape is empty then)");
        for (int depth : new int[] {Integer.MIN_VALUE, -1, 0, 10, 11, Integer.MAX_VALUE}) {
            House t = asking();
            t.tape("5");
            due("ask(1, " + depth + ")", t.x.ask(1, depth), false);
            due("the tape is empty", t.x.feed(0, 0, 0, 0, 0), 20);
            goesOn(t);
        }
        House t = asking();
        String nest = "K(L(M(N(O(P(Q(R(S(T 1)))))))))";
        t.ends(nest, 1, 2, "K .");
        t.ends(nest, 8, 2, "K (L (M (N (O (P (Q (R .)))))))");
        t.ends(nest, 9, 2, "K (L (M (N (O (P (Q (R (S .))))))))");
    }

    private static void askWithNothingLoaded() {
        about("promise 4: false: nothing loaded (the tape is empty then if n was so)");
        House t = new House(10);
        due("ask(0, 1)", t.x.ask(0, 1), false);
        t.tape("5");
        due("ask(-1, 1)", t.x.ask(-1, 1), false);
        due("ask(21, 1)", t.x.ask(21, 1), false);
        due("the tape stays", t.x.feed(0, 0, 0, 0, 0), 40);
        due("ask(1, 1)", t.x.ask(1, 1), false);
        due("the tape is empty", t.x.feed(0, 0, 0, 0, 0), 20);
        due("ask(20, 1)", t.x.ask(20, 1), false);
        due("the tape is empty again", t.x.feed(0, 0, 0, 0, 0), 20);
        due("nothing asked", t.x.about(0), 0);
        due("run", t.x.run(1), -1);
        due("an empty program is one", t.x.load(0), 0);
        t.ends("5", 1, 2, "5");
    }

    private static void askWithAFault() {
        about("promise 4: false: a fault (the tape is empty then)");
        Object[][] texts = {{"", 1, 0}, {"  ", 1, 2}, {"z", 2, 0}, {"5;", 1, 1}, {"b=5;", 1, 1}, {"(".repeat(20) + "5", 3, 20}, {"5#", 1, 1}, {"\\a a->5", 2, 3}};
        for (Object[] text : texts) {
            House t = asking();
            t.tape((String) text[0]);
            due("ask " + text[0], t.x.ask(((String) text[0]).length(), 1), false);
            faultIs(t, (Integer) text[1], (Integer) text[2]);
            due("the tape is empty", t.x.feed(0, 0, 0, 0, 0), 20);
            goesOn(t);
        }
    }

    private static void faultOfTheLatest() {
        about("promise 5: of the latest text that was read; NONE for others, or ahead of any");
        House t = new House(10);
        for (int what = -2; what < 5; what++) {
            due("fault(" + what + ") ahead of any", t.x.fault(what), -1);
        }
        t.tape("a=z;");
        t.x.load(-1);
        due("nothing was read", t.x.fault(0), -1);
        t.x.load(4);
        faultIs(t, 2, 2);
        for (int what : FAR) {
            due("fault(" + what + ")", t.x.fault(what), -1);
        }
        due("fault(2)", t.x.fault(2), -1);
        due("fault(3)", t.x.fault(3), -1);
        t.tape("a=1;");
        t.x.load(4);
        faultIs(t, 0, -1);
        t.tape("(1");
        t.x.ask(2, 1);
        faultIs(t, 1, 2);
        t.asked("a", 1);
        faultIs(t, 0, -1);
        t.tape("a=1;b=" + "(".repeat(20) + "1");
        t.x.load(27);
        faultIs(t, 3, 26);
        t.x.run(9);
        faultIs(t, 3, 26);
        t.x.load(0);
        faultIs(t, 0, -1);
    }

    private static void endsTooSoon() {
        about("FAULTS 1: the end, when it ends too soon");
        String whole = "f x=let g y=\\z->case K x y of{K _ w->(w+z)*-- no\n2<=x;_->0};h=1 in g;";
        House.faulty(whole, 0, -1);
        for (int n = 1; n < whole.length(); n++) {
            House t = new House(10);
            t.tape(whole);
            due("load(" + n + ")", t.x.load(n), -1);
            boolean cutSign = whole.charAt(n - 1) == '-' && ">-".indexOf(whole.charAt(n)) >= 0;
            faultIs(t, 1, cutSign ? n - 1 : n);
        }
        House.faulty("a=1+  \n ", 1, 8);
        House.faulty("a=1+  -- 2;", 1, 11);
    }
}
