import java.lang.reflect.Member;
import java.lang.reflect.Modifier;
import java.util.Arrays;
import java.util.List;
import java.util.Random;
import java.util.stream.Stream;

/** Each promise by runs of calls whose answers were worked out by hand. */
public final class PromisesTest extends Checks {
    public static void main(String[] args) {
        face();
        newObject();
        feed();
        load();
        grammarFaults();
        ruleFaults();
        standingNames();
        nestedExes();
        ask();
        fault();
        runSteps();
        runEnds();
        runLazily();
        runInRoom();
        deepAndLong();
        shownAsked();
        aboutAsked();
        octets();
        definitions();
        anyArguments();
        finish();
    }

    private static void face() {
        about("the public face");
        Stream<Member> members = Stream.of(Arrays.<Member>asList(LazyForms.class.getDeclaredMethods()),
            Arrays.<Member>asList(LazyForms.class.getDeclaredFields()), Arrays.<Member>asList(LazyForms.class.getDeclaredConstructors()))
            .flatMap(List::stream);
        List<String> open = members.filter(m -> !Modifier.isPrivate(m.getModifiers()) && !m.isSynthetic()).map(Object::toString).sorted().toList();
        due("members", open, List.of(
            "public LazyForms(int)",
            "public boolean LazyForms.ask(int,int)",
            "public int LazyForms.about(int)",
            "public int LazyForms.definition(int,int)",
            "public int LazyForms.fault(int)",
            "public int LazyForms.feed(int,int,int,int,int)",
            "public int LazyForms.load(int)",
            "public int LazyForms.octet(int)",
            "public int LazyForms.run(int)",
            "public static final int LazyForms.NONE"));
        due("NONE", LazyForms.NONE, -1);
        due("final", Modifier.isFinal(LazyForms.class.getModifiers()), true);
    }

    private static void newObject() {
        about("promise 1");
        for (int room : new int[] {Integer.MIN_VALUE, -1, 0, 9, 10}) {
            House.house(room, "").ends("let t=" + House.tower(10) + " in t", 1, 2, "K .");
            House.house(room, "").endsAt("let t=" + House.tower(11) + " in t", 5, 0, 1);
        }
        House.house(11, "").ends("let t=" + House.tower(11) + " in t", 1, 2, "K .");
        String list = "lst a n = case n of {0 -> a; _ -> case n-1 of {m -> lst (Cons m a) m}};";
        for (int room : new int[] {1500, 1501, Integer.MAX_VALUE}) {
            House.house(room, list).ends("lst Nil 1500", 1, 2, "Cons . .");
            House.house(room, list).ends("lst Nil 1501", 1, 5, "");
        }
        House.house(1499, list).ends("lst Nil 1500", 1, 5, "");
        LazyForms x = new LazyForms(50);
        for (int what = -1; what < 30; what++) {
            due("about " + what, x.about(what), what >= 0 && what <= 9 && what != 7 ? 0 : -1);
            due("definition " + what, x.definition(0, what), -1);
            due("fault " + what, x.fault(what), -1);
        }
        due("octet", x.octet(0), -1);
        due("run", x.run(0), -1);
        due("ask", x.ask(0, 1), false);
        due("load", x.load(1), -2);
        due("feed", x.feed(0, 0, 0, 0, 0), 20);
    }

    private static void feed() {
        about("promise 2");
        LazyForms x = new LazyForms(10);
        for (int i = 1; i <= 100; i++) {
            due("feed " + i, x.feed(0x20202020, 0x20202020, 0x20202020, 0x0A0A0A0A, 0x20202020), 20 * i);
        }
        due("feed beyond", x.feed(0x20202020, 0, 0, 0, 0), -1);
        due("load beyond", x.load(2001), -2);
        due("load all", x.load(2000), 0);
        due("feed behind it", x.feed(0x613D3132, 0x333B2062, 0x3D613B20, 0x2020200A, 0x20202063), 20);
        due("feed on", x.feed(0x3D623B20, 0x20202020, 0x20202020, 0x20202020, -1), 40);
        due("load of words", x.load(36), 3);
        due("a name over two words", x.definition(2, 10), (int) 'c');
        x.feed(0x6120FF20, 0, 0, 0, 0);
        due("load of a byte 255", x.load(4), -1);
        due("its place", x.fault(1), 2);
    }

    private static void load() {
        about("promise 3");
        House t = new House(20);
        t.tape("a=1;b x=a;");
        due("load below", t.x.load(-1), -2);
        due("load beyond", t.x.load(21), -2);
        due("fault ahead of any", t.x.fault(0), -1);
        due("load", t.x.load(10), 2);
        due("the tape is empty", t.x.load(1), -2);
        t.ends("b a+a", 1, 2, "2");
        due("a is done", t.x.definition(0, 1), 4);
        t.tape("c=;");
        due("load with a fault", t.x.load(3), -1);
        due("the tape is empty", t.x.load(1), -2);
        due("what was stays", t.x.definition(0, 1), 4);
        due("what was asked stays", t.shown(), "2");
        due("its state stays", t.x.about(0), 2);
        t.asked("a+1", 1);
        t.x.run(1);
        t.tape("c=z;");
        due("load with a broken rule", t.x.load(4), -1);
        due("what was asked goes on", t.x.run(9), 2);
        t.tape("a=5;");
        due("load anew", t.x.load(4), 1);
        due("what was asked goes", t.x.about(0), 0);
        due("run of nothing", t.x.run(1), -1);
        due("steps of nothing", t.x.about(1), 0);
        due("nothing shown", t.x.octet(0), -1);
        due("not begun", t.x.definition(0, 1), 2);
        t.ends("a", 1, 2, "5");
        t.tape("f = \\x -> x; -- the end");
        due("load without an end of line", t.x.load(23), 1);
    }

    private static void grammarFaults() {
        about("promise 3, grammar");
        for (String good : new String[] {"", " \n", "-- a", "a=1;", "a=0;", "a=123456789;", "abcdefghijkl=1;", "aB_9=A_b9;", "a=1--=\n;", "f f=f;",
            "a=\\x->x;", "a=let b=1;c d=b in c;", "a=case 1 of{K->1;K b _->b;-1->2;0->1;b->b;_->3};", "a=1+2-3*4/5<6;", "a=1<=2;", "a=1==2;",
            "a=(a)(a)1K;", "a=1a;", "lets=1;a=lets;", "a=let b=1in b;", "a--x\n=1;", "a=case 1 of{K _b->b};", "a=-- \u0001\u00ff\n1;"}) {
            House.faulty(good, 0, -1);
        }
        House.faulty("a=1", 1, 3);
        House.faulty("a=1 -- b", 1, 8);
        House.faulty("a=;", 1, 2);
        House.faulty("=1;", 1, 0);
        House.faulty("a=1;;", 1, 4);
        House.faulty("A=1;", 1, 0);
        House.faulty("a=007;", 1, 2);
        House.faulty("a=00;", 1, 2);
        House.faulty("a=1234567890;", 1, 2);
        House.faulty("abcdefghijklm=1;", 1, 0);
        House.faulty("a=Abcdefghijklm;", 1, 2);
        House.faulty("let=1;", 1, 0);
        House.faulty("a=in;", 1, 2);
        House.faulty("a=1<2<3;", 1, 5);
        House.faulty("a=1 + \\x->x;", 1, 6);
        House.faulty("a=#;", 1, 2);
        House.faulty("a=\t1;", 1, 2);
        House.faulty("a=\r\n1;", 1, 2);
        House.faulty("a=-1;", 1, 2);
        House.faulty("a=1-->2;", 1, 8);
        House.faulty("a=1>2;", 1, 3);
        House.faulty("a=\\->1;", 1, 3);
        House.faulty("a=\\_->1;", 1, 3);
        House.faulty("a=\\x y 1;", 1, 7);
        House.faulty("a=();", 1, 3);
        House.faulty("a=(1;", 1, 4);
        House.faulty("a=1);", 1, 3);
        House.faulty("a=let in 1;", 1, 6);
        House.faulty("a=let b=1; in b;", 1, 11);
        House.faulty("a=let b=1 b;", 1, 12);
        House.faulty("a=let b=1 of b;", 1, 10);
        House.faulty("a=let B=1 in 1;", 1, 6);
        House.faulty("a=case 1 of 2;", 1, 12);
        House.faulty("a=case 1 of {};", 1, 13);
        House.faulty("a=case 1 of {1->1;};", 1, 18);
        House.faulty("a=case 1 of {-a->1};", 1, 14);
        House.faulty("a=case 1 of {a b->1};", 1, 15);
        House.faulty("a=case 1 of {K 1->1};", 1, 15);
        House.faulty("a=case 1 of {_a->1};", 1, 14);
        House.faulty("a=case 1 {1->1};", 1, 9);
        House.faulty("a=1+;", 1, 4);
        House.faulty("a=_;", 1, 2);
        House.faulty("a=1_;", 1, 3);
        House.faulty("a==1;", 1, 1);
        House.faulty("a b", 1, 3);
        House.faulty("a=\u007f;", 1, 2);
    }

    private static void ruleFaults() {
        about("promise 3, rules");
        House.faulty("a=b;", 2, 2);
        House.faulty("a=c;b=;", 1, 6);
        House.faulty("a=b;b=a;", 0, -1);
        House.faulty("a b b=1;", 2, 4);
        House.faulty("a=1;a=2;", 2, 4);
        House.faulty("a=1;b=a;a x=2;", 2, 8);
        House.faulty("a=\\b c b->1;", 2, 7);
        House.faulty("a=case 1 of{K x x->1};", 2, 16);
        House.faulty("a=case 1 of{K _ _->1};", 0, -1);
        House.faulty("a=let x=1;x=2 in x;", 2, 10);
        House.faulty("a=let x y y=1 in x;", 2, 10);
        House.faulty("a=let x x=x in x;", 0, -1);
        House.faulty("a=(let x=1 in x)+x;", 2, 17);
        House.faulty("a=(\\x->x)x;", 2, 9);
        House.faulty("a=case x of{x->x};", 2, 7);
        House.faulty("a=case 1 of{x->x;_->x};", 2, 20);
        House.faulty("a=let x y=1 in y;", 2, 15);
        House.faulty("a=let x=y;y=x in 1;", 0, -1);
        House.faulty("f a b c d e g=1;", 0, -1);
        House.faulty("f a b c d e g h=1;", 2, 14);
        House.faulty("a=\\b c d e f g h->1;", 2, 15);
        House.faulty("a=let b c d e f g h i=1 in 1;", 2, 20);
        House.faulty("a=case 1 of{K _ _ _ _ _ _->1};", 0, -1);
        House.faulty("a=case 1 of{K _ _ _ _ _ _ _->1};", 2, 26);
        House.faulty("a=1 1 1 1 1 1 1;", 0, -1);
        House.faulty("a=1 1 1 1 1 1 1 (b);", 2, 16);
        House.faulty("a=K 1 1 1 1 1 1;", 0, -1);
        House.faulty("a=K 1 1 1 1 1 1 1;", 2, 16);
        House.faulty("a=1*(1 1 1 1 1 1 1 1);", 2, 19);
        House.faulty("a=let b=1;c=1;d=1;e=1;f=1;g=1 in 1;", 0, -1);
        House.faulty("a=let b=1;c=1;d=1;e=1;f=1;g=1;h=1 in 1;", 2, 30);
        House.faulty("a=let b=h;c=1;d=1;e=1;f=1;g=1;h=1 in 1;", 2, 30);
        House.faulty("a=case 1 of{1->1;2->1;3->1;4->1;5->1;6->1;7->1;8->1};", 0, -1);
        House.faulty("a=case 1 of{1->1;2->1;3->1;4->1;5->1;6->1;7->1;8->1;-9->1};", 2, 52);
        StringBuilder forty = new StringBuilder();
        for (int i = 10; i < 50; i++) {
            forty.append("a").append(i).append("=a49;");
        }
        House.faulty(forty.toString(), 0, -1);
        House.faulty(forty + "b=1;c=1;", 2, forty.length());
        House.faulty(forty.toString().replace("a30=a49", "a30=b") + "b=1;", 2, forty.length() - 2);
        House.faulty(forty.toString().replace("a30=a49", "a30=c") + "b=1;c=1;", 2, forty.length() - 2);
    }

    private static void standingNames() {
        about("promise 3, 16 names");
        String twelve = "a=\\b c d e f g->\\h i j k l m->";
        int at = twelve.length();
        House.faulty(twelve + "\\n o p q->1;", 0, -1);
        House.faulty(twelve + "\\n o p q r->1;", 2, at + 9);
        House.faulty(twelve + "\\b c d e f->1;", 2, at + 9);
        House.faulty(twelve + "(\\n o p q->1)(\\n o p q->1);", 0, -1);
        House.faulty(twelve + "case 1 of{K _ n o p q->1};", 0, -1);
        House.faulty(twelve + "case 1 of{K n o p q r->1};", 2, at + 20);
        House.faulty(twelve + "\\n o p->let q=1 in 1;", 0, -1);
        House.faulty(twelve + "\\n o p->let q=1;r=1 in 1;", 2, at + 16);
        House.faulty(twelve + "\\n->let q r s=1;t=1 in 1;", 2, at + 12);
        House.faulty(twelve + "\\n->let q r=1;t=1 in 1;", 0, -1);
        House.faulty(twelve + "\\n->let q=\\r s->1;t=1 in 1;", 2, at + 13);
        House.faulty(twelve + "\\n o p q->let r=z in 1;", 2, at + 14);
        House.faulty(twelve + "\\n o p q->case 1 of{_->1;r->1};", 2, at + 25);
    }

    private static void nestedExes() {
        about("promise 3, 20 exes");
        House.faulty("a=" + "(".repeat(19) + "1" + ")".repeat(19) + ";", 0, -1);
        House.faulty("a=" + "(".repeat(20) + "1" + ")".repeat(20) + ";", 3, 22);
        House.faulty("a=" + "(".repeat(20) + ")", 1, 22);
        House.faulty("a=" + "(".repeat(20) + "1#", 3, 22);
        House.faulty("a=z+" + "(".repeat(20) + "1" + ")".repeat(20) + ";", 3, 24);
        House.faulty("a=" + "\\x->".repeat(19) + "1;", 2, 2 + 4 * 16 + 1);
        House.faulty("a=" + "\\x->".repeat(20) + "1;", 3, 82);
        House.faulty("a=" + "1+".repeat(900) + "1;", 0, -1);
        House.faulty("a=" + "(1)+".repeat(400) + "(1);", 0, -1);
        House.faulty("a=" + "case 1 of{_->".repeat(19) + "1" + "}".repeat(19) + ";", 0, -1);
        House.faulty("a=" + "case 1 of{_->".repeat(20) + "1" + "}".repeat(20) + ";", 3, 2 + 13 * 19 + 5);
        House.faulty("a=" + "let x=1 in ".repeat(15) + "(((((1)))));", 3, 2 + 11 * 15 + 5);
    }

    private static void ask() {
        about("promise 4");
        House t = new House(20);
        t.tape("1");
        due("ask ahead of a load", t.x.ask(1, 1), false);
        due("the tape is empty", t.x.load(1), -2);
        due("nothing was read", t.x.fault(0), -1);
        t.tape("a=1;b=K a;");
        due("load", t.x.load(10), 2);
        t.asked("b", 2);
        due("run", t.x.run(1), 1);
        t.tape("b+1");
        due("ask below", t.x.ask(-1, 1), false);
        due("ask beyond", t.x.ask(21, 1), false);
        due("the tape stays", t.x.feed(0, 0, 0, 0, 0), 40);
        for (int depth : new int[] {0, 10, -1, Integer.MIN_VALUE, Integer.MAX_VALUE}) {
            t.tape("1#");
            due("ask with a depth of " + depth, t.x.ask(2, depth), false);
            due("the tape is empty", t.x.ask(1, 1), false);
        }
        due("nothing was read", t.x.fault(0), 0);
        t.tape("z");
        due("ask with a fault", t.x.ask(1, 1), false);
        due("its fault", t.x.fault(0), 2);
        due("the tape is empty", t.x.ask(1, 1), false);
        due("what was asked stays", t.x.about(1), 1);
        due("and goes on", t.x.run(10), 2);
        due("what is shown", t.shown(), "K 1");
        for (String text : new String[] {"", "1;", "a=1;", "1 1)", "let x=1"}) {
            t.tape(text);
            due("ask " + text, t.x.ask(text.length(), 1), false);
            due("fault of " + text, t.x.fault(0), 1);
        }
        t.tape("(".repeat(20) + "1");
        due("ask too deep", t.x.ask(21, 1), false);
        due("fault 3", t.x.fault(0) * 100 + t.x.fault(1), 320);
        t.tape("1+2+3");
        due("ask of the first bytes", t.x.ask(3, 9), true);
        due("state", t.x.about(0), 1);
        due("what was shown goes", t.x.about(9), 0);
        due("run", t.x.run(3), 2);
        due("what is shown", t.shown(), "3");
    }

    private static void fault() {
        about("promise 5");
        House t = new House(20);
        due("ahead of any", t.x.fault(0), -1);
        t.tape("a=#;");
        t.x.load(4);
        due("kind", t.x.fault(0), 1);
        due("place", t.x.fault(1), 2);
        for (int what : new int[] {-1, 2, 3, Integer.MIN_VALUE, Integer.MAX_VALUE}) {
            due("fault " + what, t.x.fault(what), -1);
        }
        t.x.load(5);
        due("it stays when nothing is read", t.x.fault(0), 1);
        t.tape("a=1;");
        t.x.load(4);
        due("none", t.x.fault(0), 0);
        due("no place", t.x.fault(1), -1);
        t.tape("1 b");
        t.x.ask(3, 1);
        due("kind of a question's", t.x.fault(0), 2);
        due("place of a question's", t.x.fault(1), 2);
    }

    private static void runSteps() {
        about("promise 6, steps");
        House t = House.house(20, "f x y=x+y;");
        t.asked("f 1 2", 1);
        for (int n : new int[] {-1, 20001, Integer.MIN_VALUE, Integer.MAX_VALUE}) {
            due("run " + n, t.x.run(n), -1);
        }
        int[] frames = {1, 2, 1, 2, 2};
        for (int step = 0; step < frames.length; step++) {
            due("frames at " + step, t.x.about(5), frames[step]);
            due("steps at " + step, t.x.about(1), step);
            due("no step at " + step, t.x.run(0), 1);
            due("run at " + step, t.x.run(1), step == 4 ? 2 : 1);
            if (step == 2) {
                due("calls", t.x.about(4), 1);
                due("the sign's frame has come", t.x.about(5), 2);
            }
        }
        due("shown", t.shown(), "3");
        due("run behind the end", t.x.run(20000), 2);
        due("no more steps", t.x.about(1), 5);
    }

    private static void runEnds() {
        about("promise 6, ends");
        House t = House.house(20, "h=h;i=1+i;id x=x;");
        t.endsAt("let x=x in x", 3, 6, 3);
        t.endsAt("h", 3, 2, 2);
        t.endsAt("h", 3, 0, 1);
        t.endsAt("i", 3, 8, 4);
        t.endsAt("1+i", 3, 2, 3);
        t.endsAt("let x=y;y=x in x", 3, 10, 4);
        t.endsAt("(1) 2", 4, 1, 2);
        t.endsAt("K 1 2+1", 4, 0, 2);
        t.endsAt("1/0", 4, 2, 3);
        t.endsAt("1/(2-2)", 4, 5, 5);
        t.endsAt("True+i", 4, 0, 2);
        t.endsAt("1+True", 4, 2, 3);
        t.endsAt("(\\x->x)<1", 4, 1, 2);
        t.endsAt("case 3 of{2->1}", 4, 5, 2);
        t.endsAt("case K 1 of{K->1;K a b->2;L a->3;1->4}", 4, 5, 2);
        t.endsAt("case id of{K->1;1->1}", 4, 5, 2);
        t.endsAt("id id 1 2", 4, 15, 4);
        t.endsAt("((((K))))1", 4, 4, 2);
        t.ends("case K 1 of{K _ _->1;K a->a}", 1, 2, "1");
        t.ends("case 0-5 of{5->1;-5->2;_->3}", 1, 2, "2");
        t.ends("case id of{1->1;f->f 7}", 1, 2, "7");
        t.ends("case K of{K->1;_->2}", 1, 2, "1");
        t.ends("999999999*5", 1, 2, "705032699");
    }

    private static void runLazily() {
        about("promise 6, each thing at most once");
        House t = House.house(60, "nats=from 0;from n=Cons n (from (n+1));hd x=case x of{Cons h _->h};tl x=case x of{Cons _ t->t};bad=1/0;k x y=x;"
            + "add x y=x+y;twice f x=f (f x);");
        t.asked("let x=1+2 in x+x", 1);
        due("run", t.x.run(20000), 2);
        due("steps", t.x.about(1), 7);
        due("became done", t.x.about(3), 1);
        due("cells", t.x.about(2), 1);
        t.ends("k 1 bad", 1, 2, "1");
        due("bad is not begun", t.x.definition(4, 1), 2);
        t.ends("K bad", 1, 2, "K .");
        t.ends("hd (tl (tl nats))", 1, 2, "2");
        t.ends("nats", 4, 2, "Cons 0 (Cons 1 (Cons 2 (Cons . .)))");
        t.ends("let o=Cons 1 o in o", 3, 2, "Cons 1 (Cons 1 (Cons . .))");
        t.ends("twice (twice (add 3)) 0", 1, 2, "12");
        t.ends("(\\x->\\y z->x-y*z) 1 2 3", 1, 2, "-5");
        t.ends("let x=1 in let y=x+1;x=5 in y", 1, 2, "6");
        t.ends("let f n=case n of{0->1;_->n*f (n-1)} in f 10", 1, 2, "3628800");
        t.ends("10-2-3", 1, 2, "5");
        t.ends("100/7/2", 1, 2, "7");
        t.ends("(0-7)/2", 1, 2, "-3");
        t.ends("7/(0-2)", 1, 2, "-3");
        t.ends("1+2*3<7", 1, 2, "False");
        t.ends("1+2*3<=7", 1, 2, "True");
        t.ends("1+2*3==7", 1, 2, "True");
        t.ends("65536*65536", 1, 2, "0");
        t.ends("65536*32768", 1, 2, "-2147483648");
        t.ends("(65536*32768)/(0-1)", 1, 2, "-2147483648");
        t.ends("65536*32768-1", 1, 2, "2147483647");
    }

    private static void runInRoom() {
        about("promise 6, room");
        House t = House.house(10, "loop n=case n of{0->5;_->case n-1 of{m->loop m}};f c=case c of{A p q->q};big=" + "K(".repeat(5) + "1" + ")".repeat(5) + ";");
        t.ends("loop 500", 1, 2, "5");
        t.ends("let g n=case n of{0->5;_->let m=n-1 in case m of{x->g x}} in g 500", 1, 2, "5");
        t.ends("let c=K(K(K(K(K(K(K(K(K 1))))))));f a b=c in f 1", 1, 5, "");
        due("cells of the half one's question", t.x.about(2), 10);
        due("place of the latest step", t.x.about(7), 45);
        t.ends("let c=K(K(K(K(K(K(K(K 1)))))));f a b=c in f 1", 1, 2, "?");
        due("cells of the half one", t.x.about(2), 10);
        t.ends("big", 1, 2, "K .");
        due("a done definition is reached", t.x.about(8), 5);
        t.ends("let t=" + House.tower(5) + " in t", 1, 2, "K .");
        t.endsAt("let t=" + House.tower(6) + " in t", 5, 0, 1);
        due("nothing was made", t.x.about(2), 0);
        due("a done definition is reached still", t.x.about(8), 5);
        t.endsAt("(\\x->K (x+1)) 1 2 (3+4)", 4, 5, 3);
        t.ends("(\\a b c d e->a) (1+1) (1+1) (1+1) (1+1) (1+1)", 1, 5, "");
        due("the function was one too many", t.x.about(1), 2);
        due("the things were made", t.x.about(2), 5);
        t.ends("let y=1+1 in (\\a b c->a) y (1+1) (1+1)", 1, 2, "2");
    }

    private static void deepAndLong() {
        about("promise 6, DEEP and LONG");
        House t = House.house(1500, "f n=1+f(n+1);c n=case n of{0->0;_->1+c(n-1)};");
        t.endsAt("f 0", 6, 6, 1597);
        due("most frames", t.x.about(6), 400);
        due("calls", t.x.about(4), 399);
        due("cells", t.x.about(2), 399);
        t.ends("c 190", 1, 2, "190");
        String chain = "1+".repeat(398) + "1";
        t.ends(chain, 1, 2, "399");
        due("most frames of the chain", t.x.about(6), 399);
        t.ends("1+" + chain, 1, 2, "400");
        due("most frames of the longer chain", t.x.about(6), 400);
        t.endsAt("1+1+" + chain, 6, 1, 400);
        String tree = "let t=Kkkkkkkkkkkk t t t t t t in t";
        t.asked(tree, 9);
        due("LONG", t.x.run(20000), 7);
        due("bytes", t.x.about(9), 1000);
        due("place of a part", t.x.about(7), -1);
        due("frames", t.x.about(5), 0);
        due("the last byte", t.x.octet(999) > 0, true);
        due("none behind it", t.x.octet(1000), -1);
    }

    private static void shownAsked() {
        about("promise 6, showing");
        House t = House.house(60, "id x=x;two x y=x;h=h;");
        t.ends("K", 1, 2, "K");
        t.ends("id", 1, 2, "?");
        t.ends("two 1", 1, 2, "?");
        t.ends("\\x->x", 1, 2, "?");
        t.ends("0-12", 1, 2, "-12");
        t.ends("0", 9, 2, "0");
        t.ends("K (0-1) L (M 2) id", 1, 2, "K . . . .");
        t.ends("K (0-1) L (M 2) id", 2, 2, "K -1 L (M .) ?");
        t.ends("K (0-1) L (M 2) id", 3, 2, "K -1 L (M 2) ?");
        t.ends("K (K (K (K 1) 2) 3) 4", 9, 2, "K (K (K (K 1) 2) 3) 4");
        t.ends("K (K (K (K 1) 2) 3) 4", 3, 2, "K (K (K . .) 3) 4");
        t.ends("K 1 h", 1, 2, "K . .");
        t.asked("K 1 h 2", 2);
        due("run to the first part", t.x.run(1), 1);
        due("a frame for the parts", t.x.about(5), 2);
        due("run over the first part", t.x.run(1), 1);
        due("it is shown", t.shown().trim(), "K 1");
        due("run into h", t.x.run(1), 1);
        due("h is wanted", t.x.about(5), 3);
        due("h ends it", t.x.run(1), 3);
        due("at its own ex", t.x.about(7), 19);
        t.asked("K h", 2);
        due("h is begun", t.x.run(9), 3);
        due("the part's own step has no place", t.x.about(7), -1);
        due("steps", t.x.about(1), 2);
    }

    private static void aboutAsked() {
        about("promise 7");
        House t = House.house(30, "xs=Cons 1 (Cons (1+1) Nil);f a b=a;");
        due("nothing asked", t.x.about(0), 0);
        t.asked("let g=f 1;y=g 2 in K y xs", 3);
        due("a frame that shows", t.x.about(5), 1);
        due("the most frames", t.x.about(6), 1);
        due("no cells", t.x.about(8), 0);
        t.x.run(1);
        due("two waiting ones", t.x.about(2), 2);
        due("y holds g", t.x.about(8), 2);
        t.x.run(1);
        due("the made one is not held", t.x.about(8), 2);
        due("the made one was made", t.x.about(2), 3);
        due("to the part, its ex, g, its ex, f", t.x.run(5), 1);
        due("y is held as wanted; the half one is not", t.x.about(8), 1);
        due("the half one was made", t.x.about(2), 4);
        due("a call", t.x.about(4), 1);
        due("g is done", t.x.about(3), 1);
        due("frames", t.x.about(5), 3);
        due("the most frames", t.x.about(6), 6);
        due("run", t.x.run(20000), 2);
        due("shown", t.shown(), "K 1 (Cons 1 (Cons . .))");
        due("bytes", t.x.about(9), 23);
        due("no place", t.x.about(7), -1);
        due("xs is reached: two made ones and 1+1", t.x.about(8), 3);
        due("done: g y xs", t.x.about(3), 3);
        due("cells", t.x.about(2), 7);
        t.ends("xs", 3, 2, "Cons 1 (Cons 2 Nil)");
        due("1+1 is 2", t.x.about(8), 2);
        due("of the latest alone", t.x.about(2), 0);
        for (int what : new int[] {-1, 10, Integer.MIN_VALUE, Integer.MAX_VALUE}) {
            due("about " + what, t.x.about(what), -1);
        }
        t.asked("5+6", 1);
        t.x.run(1);
        due("no place while it goes on", t.x.about(7), -1);
        t.x.run(9);
        due("no place when it is done", t.x.about(7), -1);
        House u = House.house(30, "p=K(1+q)(2);q=1/0;");
        u.asked("p", 2);
        due("WRONG", u.x.run(20000), 4);
        due("place in the program", u.x.about(7), 16);
        due("p and its begun part", u.x.about(8), 2);
        u.asked("p", 2);
        due("what was begun stays so", u.x.run(20000), 3);
        due("a part's step", u.x.about(7), -1);
    }

    private static void octets() {
        about("promise 8");
        House t = House.house(10, "");
        due("nothing asked", t.x.octet(0), -1);
        t.ends("K 1", 2, 2, "K 1");
        due("octet 0", t.x.octet(0), 75);
        due("octet 2", t.x.octet(2), 49);
        for (int i : new int[] {-1, 3, 999, 1000, Integer.MIN_VALUE, Integer.MAX_VALUE}) {
            due("octet " + i, t.x.octet(i), -1);
        }
        t.asked("1", 1);
        due("what was shown goes", t.x.octet(0), -1);
    }

    private static void definitions() {
        about("promise 9");
        House t = House.house(20, "f a b=a;abcdefghijkl=1;c=c;d=K d;");
        int[][] answers = {{2, 1, 1}, {0, 2, 12}, {0, 2, 1}, {0, 2, 1}};
        for (int k = 0; k < 4; k++) {
            for (int what = 0; what < 3; what++) {
                due("definition " + k + " " + what, t.x.definition(k, what), answers[k][what]);
            }
        }
        for (int i = 0; i < 12; i++) {
            due("byte " + i, t.x.definition(1, 10 + i), 'a' + i);
        }
        for (int what : new int[] {-1, 3, 9, 22, 23, Integer.MIN_VALUE, Integer.MAX_VALUE}) {
            due("definition 1 " + what, t.x.definition(1, what), -1);
        }
        for (int k : new int[] {-1, 4, 40, Integer.MIN_VALUE, Integer.MAX_VALUE}) {
            due("definition " + k, t.x.definition(k, 0), -1);
        }
        t.asked("c", 1);
        t.x.run(1);
        due("c is begun", t.x.definition(2, 1), 3);
        t.ends("d", 3, 2, "K (K (K .))");
        due("c stays begun", t.x.definition(2, 1), 3);
        due("d is done", t.x.definition(3, 1), 4);
        due("f is a function", t.x.definition(0, 1), 1);
        House u = House.house(20, "");
        due("no definitions", u.x.definition(0, 0), -1);
        House v = House.house(20, "w=1;g n=case n of{0->1+w;_->case n-1 of{m->1+g m}};");
        v.ends("g 398", 1, 6, "");
        due("its place", v.x.about(7), 23);
        due("no frame came, so it is not begun", v.x.definition(0, 1), 2);
        v.ends("g 397", 1, 2, "399");
        due("most frames", v.x.about(6), 400);
        due("it is done", v.x.definition(0, 1), 4);
    }

    /** No call may throw, whatever it is told. */
    private static void anyArguments() {
        about("any arguments");
        int[] edges = {Integer.MIN_VALUE, -2, -1, 0, 1, 2, 5, 8, 10, 20, 40, 400, 1000, 2000, 20000, 20001, Integer.MAX_VALUE};
        for (int seed = 0; seed < 2000; seed++) {
            Random random = new Random(seed);
            LazyForms x = new LazyForms(edges[random.nextInt(edges.length)]);
            for (int call = 0; call < 200; call++) {
                int a = edges[random.nextInt(edges.length)];
                int b = edges[random.nextInt(edges.length)];
                switch (random.nextInt(9)) {
                    case 0 -> x.feed(a, b, random.nextInt(), 0x613D4B20, 0x613B2020);
                    case 1 -> x.feed(0x613D4B20, 0x613B0A2D, 0x2D202020, 0x20202020, 0x2020200A);
                    case 2 -> x.load(random.nextBoolean() ? a : 20);
                    case 3 -> x.ask(random.nextBoolean() ? a : 1, 1 + random.nextInt(9));
                    case 4 -> x.run(a);
                    case 5 -> x.about(a);
                    case 6 -> x.octet(a);
                    case 7 -> x.definition(a, b);
                    default -> x.fault(a);
                }
            }
        }
    }
}
