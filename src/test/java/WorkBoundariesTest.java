import java.util.ArrayList;
import java.util.List;

/** The boundary cases of working out (PARTS 2 to 4, promises 1 and 6 to 9), one method a sentence; reckoned from its words. */
public final class WorkBoundariesTest extends Checks {
    private static final int[] FAR = {Integer.MIN_VALUE, Integer.MIN_VALUE + 1, -2, -1, Integer.MAX_VALUE - 1, Integer.MAX_VALUE};

    public static void main(String[] args) {
        leastRoom();
        mostRoom();
        noText();
        stepsOfARun();
        runRefused();
        fullWhereSomethingIsMade();
        fullWithAHalfOne();
        fullWithDefinitions();
        whatIsNotReachedCostsNothing();
        whatFreeNamesHold();
        namesStandForTheirOwn();
        textsThatComeAgainAndAgain();
        deepWhereAFrameComes();
        deepAtALoop();
        holes();
        beginningStays();
        wrongWithOthers();
        wrongAlts();
        wrongNumbers();
        intsGoRound();
        quotients();
        comparisons();
        lastByteShown();
        firstByteBeyond();
        depthsShown();
        aboutWithNothingAsked();
        aboutWhileItGoesOn();
        aboutItsEnds();
        aboutOthers();
        octetsThere();
        definitionsThere();
        finish();
    }

    private static void about(House t, String question, Integer... values) {
        List<Integer> got = new ArrayList<>();
        for (int what = 0; what < values.length; what++) {
            got.add(t.x.about(what));
        }
        due("about of " + question, got, List.of(values));
    }

    private static String towerIn(int cells, String ex) {
        return "let c=" + House.tower(cells) + " in " + ex;
    }

    /** So many cells fit, one more does not. */
    private static void roomIs(int told, int room) {
        House.house(told, "").ends(towerIn(room - 1, "c"), 1, 2, "K .");
        House.house(told, "").ends(towerIn(room, "c"), 1, 2, "K .");
        House.house(told, "").endsAt("let c=K(" + House.tower(room - 1) + ")(1+1) in c", 5, 0, 1);
    }

    private static void leastRoom() {
        about("promise 1: 10; what is below counts as the least");
        for (int told : new int[] {Integer.MIN_VALUE, Integer.MIN_VALUE + 1, -1500, -1, 0, 1, 8, 9, 10}) {
            roomIs(told, 10);
        }
        roomIs(11, 11);
        roomIs(12, 12);
    }

    private static void mostRoom() {
        about("promise 1: 1,500; what is above counts as the most");
        String row = "row a n=case n of{0->a;_->case n-1 of{m->row (K m a) m}};";
        for (int told : new int[] {1498, 1499, 1500, 1501, 1502, 3000, Integer.MAX_VALUE - 1, Integer.MAX_VALUE}) {
            int room = Math.min(told, 1500);
            House t = House.house(told, row);
            t.ends("row Nil " + room, 1, 2, "K . .");
            due("cells", t.x.about(2), room);
            t.ends("row Nil " + (room + 1), 1, 5, "");
            due("cells", t.x.about(2), room);
        }
    }

    private static void noText() {
        about("promise 1: no text");
        LazyForms x = new LazyForms(50);
        due("about(0)", x.about(0), 0);
        due("run(0)", x.run(0), -1);
        due("octet(0)", x.octet(0), -1);
        due("definition(0, 0)", x.definition(0, 0), -1);
        due("fault(0)", x.fault(0), -1);
        due("fault(1)", x.fault(1), -1);
        due("load(1)", x.load(1), -2);
        due("ask(0, 1)", x.ask(0, 1), false);
        due("feed", x.feed(0, 0, 0, 0, 0), 20);
    }

    private static void stepsOfARun() {
        about("promise 6: n steps more (0 to 20,000), or until it ends");
        House t = House.house(10, "l n=l n;");
        t.asked("l 1", 1);
        due("run(0)", t.x.run(0), 1);
        due("no step", t.x.about(1), 0);
        due("run(1)", t.x.run(1), 1);
        due("one step", t.x.about(1), 1);
        due("run(19999)", t.x.run(19999), 1);
        due("20,000 steps", t.x.about(1), 20000);
        due("run(20000)", t.x.run(20000), 1);
        due("40,000 steps", t.x.about(1), 40000);
        due("calls: of each two steps one", t.x.about(4), 20000);
        t.asked("1+2", 1);
        due("two of three", t.x.run(2), 1);
        due("nothing shown", t.x.about(9), 0);
        due("none at its end", t.x.run(0), 1);
        due("the third", t.x.run(1), 2);
        due("none behind it", t.x.run(0), 2);
        due("no more behind it", t.x.run(20000), 2);
        due("steps", t.x.about(1), 3);
        t.asked("1+K", 1);
        due("it ends on its way", t.x.run(20000), 4);
        due("it stays so", t.x.run(20000), 4);
        due("steps of that", t.x.about(1), 3);
    }

    private static void runRefused() {
        about("promise 6: NONE for others, or when nothing was asked");
        House t = new House(10);
        due("ahead of a load", t.x.run(1), -1);
        t.x.load(0);
        due("ahead of a question", t.x.run(1), -1);
        due("none of it", t.x.run(0), -1);
        t.tape("z");
        t.x.ask(1, 1);
        due("with a fault", t.x.run(1), -1);
        t.asked("1+2", 1);
        for (int n : FAR) {
            due("run(" + n + ")", t.x.run(n), -1);
        }
        due("run(20001)", t.x.run(20001), -1);
        about(t, "1+2", 1, 0, 0, 0, 0, 1, 1, -1, 0, 0);
        due("run(3)", t.x.run(3), 2);
        due("run(20001) behind its end", t.x.run(20001), -1);
        t.x.load(0);
        due("behind a load", t.x.run(1), -1);
    }

    /** The ex makes so many cells while c is reached: they fit into 10, or one of c's cells is too many. */
    private static void fullAt(String program, String ex, int cells, String shown) {
        House.house(10, program).ends(towerIn(9 - cells, ex), 1, 2, shown);
        House.house(10, program).ends(towerIn(10 - cells, ex), 1, 2, shown);
        House t = House.house(10, program);
        String question = towerIn(11 - cells, ex);
        t.endsAt(question, 5, question.indexOf(" in ") + 4, 2);
        due("nothing is made", t.x.about(2), 11 - cells);
        due("nothing is reached", t.x.about(8), 0);
    }

    private static void fullWhereSomethingIsMade() {
        about("PART 3: if REACHED and N together are more than ROOM: FULL, nothing is made");
        fullAt("", "K c", 1, "K .");
        fullAt("", "K c 1 L c", 1, "K . . . .");
        fullAt("", "K c (1+1) (L (2+c) M)", 4, "K . . .");
        fullAt("", "\\x->c", 1, "?");
        fullAt("", "let d=c in 7", 1, "7");
        fullAt("", "let d=K c;e=1+1;f x=x;g=7;h=L in h", 3, "L");
        fullAt("", "let d=K d e;e=K c (K d) in 7", 3, "7");
        fullAt("f x y=7;", "f c (1+1)", 1, "7");
        fullAt("f x y=7;", "f (K c) (L (1+1))", 3, "7");
        fullAt("f x y=7;", "f c (\\x->x)", 1, "7");
        House t = House.house(10, "f x y=x;");
        t.ends(towerIn(10, "f c 5"), 1, 2, "K .");
        t.ends(towerIn(10, "f 5 (c)"), 1, 2, "5");
        t.ends(towerIn(10, "case c of{K d->d}"), 1, 2, "K .");
        t.ends(towerIn(10, "let d=5;e=L in d"), 1, 2, "5");
    }

    /** The step that is the latest then is that of the use's first atom. */
    private static void fullWithAHalfOne() {
        about("PART 3: of a half one that is made: the function and the things");
        House t = House.house(10, "f x y z=x;");
        t.ends(towerIn(9, "f c"), 1, 2, "?");
        due("cells", t.x.about(2), 10);
        String question = towerIn(10, "f c");
        t.endsAt(question, 5, question.indexOf("f c"), 3);
        due("cells", t.x.about(2), 10);
        t.ends(towerIn(9, "(f c) 1"), 1, 2, "?");
        due("the first half one is not reached when the second is made", t.x.about(2), 11);
        t.ends(towerIn(7, "let h=f c in case h 1 of{g->K g h}"), 1, 2, "K . .");
        question = towerIn(8, "let h=f c in case h 1 of{g->K g h}");
        t.endsAt(question, 5, question.indexOf("K g h"), 8);
        t.ends(towerIn(8, "let h=f c in case h 1 of{g->h}"), 1, 2, "?");
        question = towerIn(9, "let h=f c in case h 1 of{g->h}");
        t.endsAt(question, 5, question.indexOf("f c"), 7);
        t.ends(towerIn(8, "(\\a b->a) c"), 1, 2, "?");
        question = towerIn(9, "(\\a b->a) c");
        t.endsAt(question, 5, question.indexOf("\\"), 3);
    }

    private static void fullWithDefinitions() {
        about("PART 3: REACHED from definitions that are done");
        House t = House.house(10, "d=K(K(K 1));e=d;f=\\x->d;g x=x;");
        t.ends(towerIn(10, "c"), 1, 2, "K .");
        t.ends("d", 1, 2, "K .");
        due("d is reached", t.x.about(8), 3);
        t.ends(towerIn(7, "c"), 1, 2, "K .");
        t.endsAt(towerIn(8, "c"), 5, 0, 1);
        due("d is reached still", t.x.about(8), 3);
        t.ends("e", 1, 2, "K .");
        due("e is what d is", t.x.about(8), 3);
        t.ends("f", 1, 2, "?");
        due("a function that came of a definition is a cell", t.x.about(8), 4);
        t.ends("g", 1, 2, "?");
        due("a function that is a definition is none", t.x.about(8), 4);
        t.ends(towerIn(6, "c"), 1, 2, "K .");
        t.endsAt(towerIn(7, "c"), 5, 0, 1);
    }

    private static void whatIsNotReachedCostsNothing() {
        about("PART 3: REACHED, and nothing else");
        House t = House.house(10, "g n=case n of{0->5;_->case K(K(K n)) of{_->case n-1 of{m->g m}}};");
        t.ends(towerIn(10, "case 1 of{_->K 2}"), 1, 2, "K .");
        t.ends(towerIn(10, "case c of{K d->L d}"), 1, 2, "L .");
        t.ends("let c=1+1 in case c of{d->" + House.tower(10).replace("1", "c") + "}", 1, 2, "K .");
        t.ends("g 900", 1, 2, "5");
        due("cells", t.x.about(2), 2700);
        about("PART 3: from a waiting one that is begun nothing, whoever holds it");
        t.ends("let c=" + House.tower(8) + " in let w=case c of{K d->K 1} in K w", 2, 2, "K (K .)");
        t.ends("let c=" + House.tower(7) + " in let w=case c of{_->" + House.tower(9) + "} in case w of{v->7}", 1, 2, "7");
        t.ends("let c=" + House.tower(7) + " in let w=case c of{_->" + House.tower(10) + "} in case w of{v->7}", 1, 5, "");
        due("w is reached, 10 cells more are too many", t.x.about(2), 8);
    }

    private static void whatFreeNamesHold() {
        about("PART 2: free names of what is made are kept, no others");
        House t = House.house(10, "f x=let c=" + House.tower(9) + " in 7;g x=x+g x;two x y z=x;");
        t.ends(towerIn(9, "let f=\\y->y in K f"), 1, 2, "K .");
        t.ends(towerIn(9, "let f y=y in K f"), 1, 2, "K .");
        t.ends(towerIn(9, "let w=1+1 in K w"), 1, 2, "K .");
        t.ends(towerIn(9, "let f=\\c->c in K f"), 1, 2, "K .");
        t.ends(towerIn(9, "let f=\\y->c in K f"), 1, 5, "");
        t.ends(towerIn(9, "let w=case 1 of{_->c} in K w"), 1, 5, "");
        about("PART 3: REACHED from frames: of alts and y what their free names stand for; of what is wanted nothing of its ex");
        t.ends(towerIn(9, "case K 1 of{K x->x}"), 1, 2, "1");
        t.ends(towerIn(9, "case K 1 of{K c->c}"), 1, 2, "1");
        t.ends(towerIn(9, "case K(K 1) of{K x->1;_->c}"), 1, 5, "");
        t.ends(towerIn(9, "(case K(K 1) of{K x->5})+7"), 1, 2, "12");
        t.ends(towerIn(9, "(case K(K 1) of{K x->5})+(case c of{_->7})"), 1, 5, "");
        t.ends("K (f (" + House.tower(5) + "))", 2, 2, "K 7");
        t.asked("K (f (" + House.tower(5) + ")) (M 1)", 2);
        due("the part behind is held as well", t.x.run(100), 5);
        t.ends(towerIn(9, "case two c of{h->h 1}"), 1, 2, "?");
        t.ends("case two (" + House.tower(5) + ") of{_->" + House.tower(9) + "}", 1, 2, "K .");
        t.ends("K ((\\x->let c=" + House.tower(9) + " in 7) 5)", 2, 2, "K 7");
        about("promise 4: what was asked before goes");
        t.asked("K (L (M 1)) 2", 2);
        t.x.run(1);
        due("L and M are reached", t.x.about(8), 2);
        t.asked("5", 1);
        due("nothing is reached", t.x.about(8), 0);
        t.ends(towerIn(10, "c"), 1, 2, "K .");
    }

    private static void namesStandForTheirOwn() {
        about("PART 3: with its own and these things; with what stood there");
        House t = House.house(20, "f y=y;app g x=g x;flip g x y=g y x;");
        t.ends("let x=5 in f 7+x", 1, 2, "12");
        t.ends("let x=5 in case f 7 of{z->x-z}", 1, 2, "-2");
        t.ends("let a=5 in app (\\y->y-a) 1", 1, 2, "-4");
        t.ends("let a=5;h b c=a*100+b*10+c in app (flip h 1) 2", 1, 2, "521");
        t.ends("let a=5 in app (app (\\b c->a*100+b*10+c) 6) 7", 1, 2, "567");
        t.ends("let a=1+4 in app (\\y->y*a) (a+app (\\z->z-a) 7)", 1, 2, "35");
        t.ends("(\\a b->let c=a-b in \\d->c*d) 9 2 (f 3)", 1, 2, "21");
        t.ends("let x=1 in (\\x->f x) 2+(let x=3 in f x)*10+x*100", 1, 2, "132");
    }

    private static String manyMakers(int round) {
        StringBuilder all = new StringBuilder("case Aa of{Aa->Zz" + round + ";_->1");
        for (int i = 0; all.length() < 1900; i++) {
            all.append("+B").append(round).append(i);
        }
        return all + "}";
    }

    /** Within 512 calls: what earlier texts left behind takes no place from later ones. */
    private static void textsThatComeAgainAndAgain() {
        about("promise 3: all that was goes");
        House t = new House(10);
        for (int round = 1; round <= 5; round++) {
            t.tape("i x=x;a=" + "i 1+".repeat(360) + round + ";");
            due("load", t.x.load(10 + 4 * 360), 2);
            t.ends("a+i a", 1, 2, Integer.toString(2 * (360 + round)));
        }
        House v = new House(10);
        for (int round = 0; round < 4; round++) {
            String text = "a=" + manyMakers(round) + ";";
            v.tape(text);
            due("load", v.x.load(text.length()), 1);
            v.ends("a", 1, 2, "Zz" + round);
        }
        about("promise 4: what was asked before goes");
        House u = House.house(10, "a=Aa;");
        for (int round = 0; round < 4; round++) {
            u.ends(manyMakers(round), 1, 2, "Zz" + round);
        }
        u.ends("Aa", 1, 2, "Aa");
        u.ends("case a of{Zz->1;Aa->2}", 1, 2, "2");
    }

    /** The ex inside of so many sums, each of which has its frame when the ex is worked out. */
    private static String sums(String ex, int count) {
        return ex + "+1".repeat(count);
    }

    private static void deepWhereAFrameComes() {
        about("PART 3: a frame that would be one more than 400: DEEP");
        House t = House.house(50, "one=1;i x=x;");
        t.endsAt(sums("one", 399), 6, 0, 400);
        t.endsAt(sums("i 1", 399), 6, 0, 400);
        t.endsAt(sums("(case 1 of{_->1})", 399), 6, 1, 400);
        t.endsAt(sums("1", 400), 6, 1, 400);
        t.endsAt(sums("(let x=1+1 in x)", 399), 6, 14, 401);
        t.endsAt(sums("(let x=1+1 in x)", 398), 6, 8, 401);
        about(t, "the latter", 6, 401, 1, 0, 0, 0, 400, 8, 0, 0);
        t.ends(sums("(let x=1+1 in x)", 397), 1, 2, "399");
        due("one is not begun: no frame came", t.x.definition(0, 1), 2);
        for (String ex : new String[] {"one", "i 1", "(case 1 of{_->1})", "i i 1"}) {
            fitsAt(ex, 398);
        }
        fitsAt("(i i) 1", 397);
        fitsAt("i (i 1)", 397);
        t.ends(sums("1", 399), 1, 2, "400");
        due("the most frames", t.x.about(6), 400);
        t.ends(sums("(let x=1 in x)", 399), 1, 2, "400");
        t.endsAt(sums("i (1+1)", 399), 6, 0, 400);
        due("the atoms were taken", t.x.about(2), 1);
    }

    /** With so many sums around it the ex, which is 1, needs all frames there are. */
    private static void fitsAt(String ex, int count) {
        House t = House.house(50, "one=1;i x=x;");
        t.ends(sums(ex, count), 1, 2, Integer.toString(1 + count));
        due("the most frames of " + ex, t.x.about(6), 400);
        House u = House.house(50, "one=1;i x=x;");
        u.ends(sums(ex, count - 1), 1, 2, Integer.toString(count));
        due("one frame less of " + ex, u.x.about(6), 399);
        House v = House.house(50, "one=1;i x=x;");
        v.ends(sums(ex, count + 1), 1, 6, "");
        due("no frame more of " + ex, v.x.about(6), 400);
    }

    private static void deepAtALoop() {
        about("PART 3: DEEP, with calls");
        House t = House.house(1500, "s n=case n of{0->0;_->1+s (n-1)};");
        t.asked("s 500", 1);
        due("run", t.x.run(20000), 6);
        due("frames now", t.x.about(5), 0);
        due("most", t.x.about(6), 400);
        t.ends("s 100", 1, 2, "100");
    }

    private static void holes() {
        about("PART 3: begun: HOLE");
        House t = House.house(10, "h=h;a=b;b=a;c=1+c;p=K p;q=K(1+1);");
        t.endsAt("h", 3, 2, 2);
        t.endsAt("a", 3, 10, 3);
        t.endsAt("c", 3, 16, 4);
        t.endsAt("let x=x in x", 3, 6, 3);
        t.endsAt("let x=y;y=1+x in x", 3, 12, 6);
        t.asked("K (let x=x in x)", 2);
        due("a part that wants itself", t.x.run(100), 3);
        due("what was shown ahead of it", t.shown().trim(), "K");
        due("its place", t.x.about(7), 9);
        t.ends("p", 2, 2, "K (K .)");
        t.ends("let x=K x in x", 3, 2, "K (K (K .))");
        t.ends("let x=y;y=2 in x*x", 1, 2, "4");
        t.ends("q", 2, 2, "K 2");
        t.ends("q", 2, 2, "K 2");
    }

    private static void beginningStays() {
        about("PART 3: what is begun then (or when something else is asked) stays so");
        House t = House.house(10, "h=h;w=1/0;a=1+1;p=K(1/0)(1+1);");
        t.endsAt("h", 3, 2, 2);
        due("h is begun", t.x.definition(0, 1), 3);
        t.endsAt("h", 3, 0, 1);
        t.endsAt("w", 4, 8, 4);
        due("w is begun", t.x.definition(1, 1), 3);
        t.endsAt("1+w", 3, 2, 3);
        t.asked("a", 1);
        t.x.run(1);
        due("a is begun", t.x.definition(2, 1), 3);
        t.tape("z");
        t.x.ask(1, 1);
        due("nothing else was asked", t.x.run(9), 2);
        due("a is done", t.x.definition(2, 1), 4);
        t.asked("p", 2);
        due("a part ends it", t.x.run(20), 4);
        due("p is done", t.x.definition(3, 1), 4);
        due("its two parts wait still", t.x.about(8), 3);
        t.endsAt("case p of{K x y->x}", 3, 17, 3);
        t.ends("case p of{K x y->y}", 1, 2, "2");
        due("one waits still", t.x.about(8), 2);
        House u = House.house(10, "a=1+1;");
        u.asked("a", 1);
        u.x.run(2);
        u.asked("5", 1);
        due("a stays begun", u.x.definition(0, 1), 3);
        u.endsAt("a", 3, 0, 1);
        u.tape("a=1+1;");
        u.x.load(6);
        due("another one", u.x.definition(0, 1), 2);
    }

    private static void wrongWithOthers() {
        about("PART 3: things, with others: WRONG");
        House t = House.house(10, "f x=x;g=7;");
        t.endsAt("1 2", 4, 0, 2);
        t.endsAt("(K) 2", 4, 1, 2);
        t.endsAt("(K 1) 2", 4, 1, 2);
        t.endsAt("g 2", 4, 8, 3);
        t.endsAt("f 1 2", 4, 4, 3);
        t.endsAt("(1+1) 2", 4, 3, 4);
        t.ends("f f 2", 1, 2, "2");
    }

    private static void wrongAlts() {
        about("PART 3: alts: the first one that fits; none: WRONG");
        House t = House.house(10, "f x y=x;");
        t.endsAt("case 1 of{0->1;-1->2;K->3}", 4, 5, 2);
        t.endsAt("case K of{L->1;K _->2;0->3}", 4, 5, 2);
        t.endsAt("case K 1 of{K->1;K a b->2;L a->3}", 4, 5, 2);
        t.endsAt("case f of{K->1;0->2}", 4, 5, 2);
        t.endsAt("case f 1 of{K->1;0->2}", 4, 5, 3);
        t.endsAt("case 1<2 of{False->1}", 4, 7, 4);
        t.ends("case K 1 of{K->1;K a b->2;K a->a+2}", 1, 2, "3");
        t.ends("case 1 of{0->1;1->2;1->3;_->4}", 1, 2, "2");
        t.ends("case f 1 of{_->5}", 1, 2, "5");
        t.ends("case f of{g->g 6 7}", 1, 2, "6");
        t.ends("case K 1 2 3 4 5 6 of{K _ _ _ _ _ a->a}", 1, 2, "6");
    }

    private static void wrongNumbers() {
        about("PART 3: if the thing is a number; else WRONG");
        House t = House.house(10, "f x=x;");
        for (String sign : new String[] {"+", "-", "*", "/", "<", "<=", "=="}) {
            t.endsAt("K" + sign + "f", 4, 0, 2);
            t.endsAt("f" + sign + "1", 4, 0, 2);
            t.endsAt("1" + sign + "K 1", 4, 1 + sign.length(), 3);
            t.endsAt("1" + sign + "f", 4, 1 + sign.length(), 3);
            t.endsAt("1" + sign + "True", 4, 1 + sign.length(), 3);
        }
    }

    private static final String MOST = "(999999999*2+147483649)";
    private static final String LEAST = "(0-999999999*2-147483650)";

    private static void intsGoRound() {
        about("PART 3: + - * go round");
        House t = House.house(10, "");
        t.ends(MOST, 1, 2, "2147483647");
        t.ends(LEAST, 1, 2, "-2147483648");
        t.ends(MOST + "+1", 1, 2, "-2147483648");
        t.ends(LEAST + "-1", 1, 2, "2147483647");
        t.ends("0-" + LEAST, 1, 2, "-2147483648");
        t.ends(LEAST + "*(0-1)", 1, 2, "-2147483648");
        t.ends(MOST + "*2", 1, 2, "-2");
        t.ends(MOST + "*" + MOST, 1, 2, "1");
        t.ends("46341*46341", 1, 2, "-2147479015");
        t.ends("65536*65536", 1, 2, "0");
    }

    private static void quotients() {
        about("PART 3: / is cut towards 0, by 0 WRONG");
        House t = House.house(10, "");
        int[][] all = {{7, 2, 3}, {-7, 2, -3}, {7, -2, -3}, {-7, -2, 3}, {1, 2, 0}, {-1, 2, 0}, {0, 5, 0}, {6, 3, 2}, {-6, 3, -2}, {5, 7, 0}};
        for (int[] one : all) {
            t.ends(literal(one[0]) + "/" + literal(one[1]), 1, 2, Integer.toString(one[2]));
        }
        t.ends(LEAST + "/(0-1)", 1, 2, "-2147483648");
        t.ends(LEAST + "/2", 1, 2, "-1073741824");
        t.endsAt("1/0", 4, 2, 3);
        t.endsAt("0/0", 4, 2, 3);
        t.endsAt("1/(1-1)", 4, 5, 5);
        t.endsAt(LEAST + "/0", 4, LEAST.length() + 1, 9);
    }

    private static String literal(int number) {
        return number < 0 ? "(0-" + -number + ")" : Integer.toString(number);
    }

    private static void comparisons() {
        about("PART 3: < <= == give the makers True, False");
        House t = House.house(10, "");
        t.ends("1<1", 1, 2, "False");
        t.ends("0<1", 1, 2, "True");
        t.ends("1<=1", 1, 2, "True");
        t.ends("2<=1", 1, 2, "False");
        t.ends("1==1", 1, 2, "True");
        t.ends("1==2", 1, 2, "False");
        t.ends(LEAST + "<" + MOST, 1, 2, "True");
        t.ends(MOST + "<=" + LEAST, 1, 2, "False");
        t.ends("case 1<2 of{False->0;True->1}", 1, 2, "1");
    }

    /** R b b a shows 984 bytes at a depth of 4: 1, twice 1+453 and 1+74. */
    private static House wide() {
        return House.house(50, "a=Abcdefghijkl" + " 999999999".repeat(6) + ";b=B" + " a".repeat(6) + ";");
    }

    private static void lastByteShown() {
        about("PART 4: 1,000 bytes");
        wide().ends("R b b a", 4, 2, rowOf("R b b a", ""));
        for (String[] last : new String[][] {{"999999999 12345", " 999999999 12345"}, {"999999999 (0-1234)", " 999999999 -1234"}, {"999999999 123 (\\x->x)", " 999999999 123 ?"},
            {"999999999 123 K", " 999999999 123 K"}, {"999999999 (K 1)", " 999999999 (K 1)"}, {"1 (K (L (M 5)))", " 1 (K (L (M .)))"}, {"999999999 1234", " 999999999 1234"}}) {
            House t = wide();
            String due = rowOf("R b b a", last[1]);
            t.ends("R b b a " + last[0], 4, 2, due);
            due("bytes", t.x.about(9), last[0].endsWith(" 1234") ? 999 : 1000);
            due("the last one", t.x.octet(due.length() - 1), (int) due.charAt(due.length() - 1));
            due("none behind it", t.x.octet(due.length()), -1);
        }
    }

    private static String rowOf(String start, String end) {
        String a = "(Abcdefghijkl" + " 999999999".repeat(6) + ")";
        String b = "(B" + (" " + a).repeat(6) + ")";
        return start.replace("b", b).replace("a", a) + end;
    }

    private static void firstByteBeyond() {
        about("PART 4: a byte beyond 1,000: LONG");
        String[][] all = {{"999999999 123456", " 999999999 12345"}, {"999999999 (0-12345)", " 999999999 -1234"}, {"999999999 1234 (0-1)", " 999999999 1234 "},
            {"999999999 1234 (\\x->x)", " 999999999 1234 "}, {"999999999 123 Kl", " 999999999 123 K"}, {"999999999 1234 K", " 999999999 1234 "},
            {"999999999 1234 (K 1)", " 999999999 1234 "}, {"999999999 123 (K 1)", " 999999999 123 ("}, {"999999999 (K 12)", " 999999999 (K 12"},
            {"12 (K (L (M 5)))", " 12 (K (L (M .))"}, {"12345 (K (L (M 5)))", " 12345 (K (L (M "}, {"999999999 12345 1", " 999999999 12345"}};
        for (String[] one : all) {
            House t = wide();
            String question = "R b b a " + one[0];
            t.ends(question, 4, 7, rowOf("R b b a", one[1]));
            due("bytes", t.x.about(9), 1000);
            due("none behind them", t.x.octet(1000), -1);
            due("place of " + question, t.x.about(7), one[0].endsWith("(0-12345)") ? question.indexOf("12345") : one[0].endsWith("(0-1)") ? question.indexOf("-1)") + 1 : -1);
            due("no frames", t.x.about(5), 0);
            due("run behind it", t.x.run(100), 7);
        }
    }

    private static void depthsShown() {
        about("PART 4: a part at a depth of 0 is a . alone; above 1 a frame comes");
        House t = House.house(20, "h=h;id x=x;");
        t.ends("K h", 1, 2, "K .");
        about(t, "K h", 2, 1, 1, 0, 0, 0, 1, -1, 0, 3);
        t.ends("K (L h) 5 id M (id 1)", 2, 2, "K (L .) 5 ? M 1");
        t.ends("K (L (M h)) 5", 3, 2, "K (L (M .)) 5");
        t.ends("K (L 1) (M 2)", 3, 2, "K (L 1) (M 2)");
        about(t, "K (L 1) (M 2)", 2, 5, 3, 0, 0, 0, 3, -1, 0, 13);
        t.ends("K", 9, 2, "K");
        t.ends("id", 9, 2, "?");
    }

    private static void aboutWithNothingAsked() {
        about("promise 7: 0: nothing asked");
        House t = new House(10);
        due("STATE of a new one", t.x.about(0), 0);
        due("place of a new one", t.x.about(7), -1);
        t.tape("a=K 1;");
        t.x.load(6);
        due("STATE behind a load", t.x.about(0), 0);
        t.ends("a", 1, 2, "K .");
        due("a is reached", t.x.about(8), 1);
        t.tape("a=K 1;");
        t.x.load(6);
        due("STATE behind another load", t.x.about(0), 0);
        due("place behind it", t.x.about(7), -1);
        due("nothing is reached", t.x.about(8), 0);
        due("nothing is shown", t.x.about(9), 0);
    }

    /** Steps: the let; +; x; 1*2; 1; 2 (x is done, it is a number); x again. */
    private static void aboutWhileItGoesOn() {
        about("promise 7: STATE 1");
        House t = House.house(10, "");
        t.asked("let x=1*2;c=K x in x+(case c of{K y->y})", 1);
        about(t, "it", 1, 0, 0, 0, 0, 1, 1, -1, 0, 0);
        Integer[][] all = {{1, 1, 2, 0, 0, 1, 1, -1, 2, 0}, {1, 2, 2, 0, 0, 2, 2, -1, 2, 0}, {1, 3, 2, 0, 0, 3, 3, -1, 2, 0}, {1, 4, 2, 0, 0, 4, 4, -1, 2, 0},
            {1, 5, 2, 0, 0, 4, 4, -1, 2, 0}, {1, 6, 2, 1, 0, 2, 4, -1, 1, 0}, {1, 7, 2, 1, 0, 3, 4, -1, 1, 0}, {1, 8, 2, 1, 0, 2, 4, -1, 0, 0},
            {2, 9, 2, 1, 0, 0, 4, -1, 0, 1}};
        for (Integer[] one : all) {
            due("run(1)", t.x.run(1), one[0]);
            about(t, "it", one);
        }
        due("shown", t.x.octet(0), (int) '4');
        t.asked("K (L 1) (M (1+1)) 5", 3);
        t.x.run(1);
        about(t, "parts: L, M and 1+1 are held", 1, 1, 4, 0, 0, 2, 2, -1, 3);
        t.x.run(1);
        about(t, "the part of L is next: M and 1+1 are held", 1, 2, 4, 0, 0, 3, 3, -1, 2);
        t.x.run(1);
        about(t, "M is next", 1, 3, 4, 0, 0, 2, 3, -1, 2);
        t.x.run(1);
        about(t, "1+1 is next", 1, 4, 4, 0, 0, 3, 3, -1, 1);
        t.x.run(1);
        about(t, "1+1 is begun", 1, 5, 4, 0, 0, 4, 4, -1, 1);
        due("the rest", t.x.run(4), 2);
        about(t, "all", 2, 9, 4, 1, 0, 0, 5, -1, 0, 15);
    }

    private static void aboutItsEnds() {
        about("promise 7: each STATE that ends it");
        House t = House.house(10, "h=h;k=K(K 1);");
        t.ends("k", 1, 2, "K .");
        about(t, "DONE", 2, 2, 2, 1, 0, 0, 2, -1, 2, 3);
        t.ends("h", 1, 3, "");
        about(t, "HOLE", 3, 2, 0, 0, 0, 0, 2, 2, 2, 0);
        t.ends("(\\x->x+2) (K 1)", 1, 4, "");
        about(t, "WRONG", 4, 4, 2, 0, 1, 0, 2, 5, 2, 0);
        t.ends("let c=" + House.tower(8) + " in K c", 1, 5, "");
        about(t, "FULL", 5, 2, 8, 0, 0, 0, 1, 34, 2, 0);
        t.ends("let c=" + House.tower(9) + " in c", 1, 5, "");
        about(t, "FULL at once", 5, 1, 0, 0, 0, 0, 1, 0, 2, 0);
        t.ends(sums("1", 400), 1, 6, "");
        about(t, "DEEP", 6, 400, 0, 0, 0, 0, 400, 1, 2, 0);
        House u = wide();
        u.ends("R b b a 999999999 123456", 4, 7, rowOf("R b b a", " 999999999 12345"));
        about(u, "LONG", 7, 98, 3, 2, 0, 0, 4, -1, 2, 1000);
    }

    private static void aboutOthers() {
        about("promise 7: NONE for others");
        House t = House.house(10, "");
        for (int round = 0; round < 3; round++) {
            for (int what : FAR) {
                due("about(" + what + ")", t.x.about(what), -1);
            }
            due("about(10)", t.x.about(10), -1);
            due("about(11)", t.x.about(11), -1);
            t.asked("1", 1);
            t.x.run(round);
        }
    }

    private static void octetsThere() {
        about("promise 8: NONE when there is none");
        House t = House.house(10, "");
        due("nothing asked", t.x.octet(0), -1);
        t.asked("K", 1);
        due("nothing shown", t.x.octet(0), -1);
        t.ends("Kl 1", 1, 2, "Kl .");
        for (int i : FAR) {
            due("octet(" + i + ")", t.x.octet(i), -1);
        }
        due("octet(0)", t.x.octet(0), (int) 'K');
        due("octet(3)", t.x.octet(3), (int) '.');
        due("octet(4)", t.x.octet(4), -1);
        t.asked("1", 1);
        due("what was shown goes", t.x.octet(0), -1);
        t.x.run(1);
        due("octet(0)", t.x.octet(0), (int) '1');
        due("octet(1)", t.x.octet(1), -1);
        t.x.load(0);
        due("behind a load", t.x.octet(0), -1);
    }

    private static void definitionsThere() {
        about("promise 9: NONE when there is none such");
        House t = House.house(10, "f a b c d e g=a;abcdefghijkl=1;h=h;x=K 1;");
        for (int k : FAR) {
            due("definition(" + k + ", 0)", t.x.definition(k, 0), -1);
            for (int j = 0; j < 4; j++) {
                due("definition(" + j + ", " + k + ")", t.x.definition(j, k), -1);
            }
        }
        int[][] all = {{6, 1, 1}, {0, 2, 12}, {0, 2, 1}, {0, 2, 1}};
        for (int k = 0; k < 4; k++) {
            for (int what = 0; what < 24; what++) {
                int want = what < 3 ? all[k][what] : -1;
                if (what >= 10 && what - 10 < all[k][2]) {
                    want = k == 1 ? 'a' + what - 10 : "f?hx".charAt(k);
                }
                due("definition(" + k + ", " + what + ")", t.x.definition(k, what), want);
            }
        }
        due("definition(4, 0)", t.x.definition(4, 0), -1);
        t.ends("f 1 2 3 4 5 6", 1, 2, "1");
        due("a function stays one", t.x.definition(0, 1), 1);
        t.ends("h", 1, 3, "");
        due("begun", t.x.definition(2, 1), 3);
        t.ends("x", 1, 2, "K .");
        due("done", t.x.definition(3, 1), 4);
        due("not begun", t.x.definition(1, 1), 2);
        t.x.load(0);
        due("behind a load of none", t.x.definition(0, 0), -1);
    }
}
