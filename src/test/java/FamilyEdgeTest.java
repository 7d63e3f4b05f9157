/** The edges of inductive, of REC and of its steps: one too few, as many as are asked, one too many. */
public final class FamilyEdgeTest {
    private static final Bench BENCH = new Bench();

    public static void main(String[] args) {
        types();
        sortsOfArguments();
        greatestSorts();
        ends();
        ownName();
        recursiveArguments();
        orderOfTests();
        numbers();
        allowedSorts();
        refusedSorts();
        majorPlaces();
        costsOfRecursors();
        typingOfRecursors();
        rulesWithParameters();
        rulesWithIndices();
        Bench.finish(FamilyEdgeTest.class);
    }

    private static void prelude() {
        BENCH.renew();
        BENCH.takes("axiom a : Prop. axiom A : Type 0. axiom e : A. axiom F : A -> Type 0.", 4);
    }

    /** T is PI .. SORT as it stands: nothing is opened to find that. */
    private static void types() {
        prelude();
        BENCH.takes("def D : Type 1 := Type 0. def E : Type 2 := Type 0 -> Type 1.", 2);
        for (String type : new String[] {"a", "A", "e", "D", "E", "A -> D", "A -> A", "forall (x : A), F x",
            "(fun (x : Type 1) => x) Type 0", "let x : Type 1 := Type 0 in x", "fun (x : A) => Prop", "F e", "rec"}) {
            String text = "inductive I : " + type + " := { }.";
            if (type.equals("rec")) {
                BENCH.refuses(text, 1, 18);
            } else {
                BENCH.refuses(text, 8, 0);
            }
        }
        // 8 comes before what SORTOF of PI PARAMETERS T tells.
        BENCH.refuses("inductive I (x : e) : A := { }.", 8, 0);
        BENCH.refuses("inductive I (x : e) : Prop := { }.", 6, 0);
        BENCH.refuses("inductive I (x : e e) : Prop := { }.", 5, 0);
        BENCH.refuses("inductive I : e -> Prop := { }.", 6, 0);
        BENCH.refuses("inductive I : F a -> Prop := { }.", 4, 0);
        BENCH.refuses("inductive I : Type 99 := { }.", 7, 0);
        BENCH.refuses("inductive I (x : Type 99) : Prop := { }.", 7, 0);
        BENCH.takes("inductive I : Type 98 := { }.");
        // The type of an INDEX may be whatever is a type, and may step to it.
        BENCH.takes("inductive J : (fun (x : Type 0) => x) A -> (let y : Type 0 := A in y) -> D -> Prop := { }.");
        BENCH.tells(7, 3, 14, 0, 0, 3, 0, 0, 0);
    }

    /** Of each ARGUMENT SORTOF is at most s, or s is 0: one less, as great, one more. */
    private static void sortsOfArguments() {
        for (int s = 0; s <= 3; s++) {
            for (int argument = 0; argument <= 4; argument++) {
                prelude();
                String sort = s == 0 ? "Prop" : "Type " + (s - 1);
                String type = argument == 0 ? "a" : argument == 1 ? "A" : "Type " + (argument - 2);
                String text = "inductive I : " + sort + " := { | c : " + type + " -> I }.";
                String second = "inductive J : " + sort + " := { | d : a -> " + type + " -> J }.";
                String under = "inductive K : " + sort + " := { | k : (A -> " + type + ") -> K }.";
                if (s == 0 || argument <= s) {
                    BENCH.takes(text);
                    BENCH.takes(second);
                } else {
                    BENCH.refuses(text, 7, 0);
                    BENCH.refuses(second, 7, 0);
                }
                // A -> a is a Prop, else the greater of both counts.
                if (s == 0 || argument <= s) {
                    BENCH.takes(under);
                } else {
                    BENCH.refuses(under, 7, 0);
                }
            }
        }
        // The SORTOF of the PARAMETERS and of the INDICES is not asked.
        prelude();
        BENCH.takes("inductive I (x : Type 9) : Type 8 -> Type 0 := { | c : forall (y : a), I x (Type 7) }.");
        BENCH.refuses("inductive J (x : Type 9) : Type 0 := { | d : x -> J x }.", 7, 0);
        BENCH.refuses("inductive J (x : Type 9) : Type 8 := { | d : x -> J x }.", 7, 0);
        BENCH.takes("inductive J (x : Type 9) : Type 9 := { | d : x -> J x }.");
    }

    private static void greatestSorts() {
        BENCH.renew();
        BENCH.takes("inductive I : Type 98 := { | c : Type 97 -> I }.");
        BENCH.refuses("inductive J : Type 98 := { | d : Type 98 -> J }.", 7, 0);
        BENCH.refuses("inductive J : Type 98 := { | d : Type 99 -> J }.", 7, 0);
        BENCH.takes("inductive J : Prop := { | d : Type 98 -> J }.");
        BENCH.refuses("inductive K : Prop := { | k : Type 99 -> K }.", 7, 0);
        // The motive of rec into SORT 100 is no function into a SORT that has a type.
        BENCH.takes("eval rec I Type 99. eval rec J Prop.", 2);
        BENCH.takes("eval rec I Type 98 (fun (x : I) => I) (fun (y : Type 97) => c y).");
        BENCH.refuses("eval rec I Type 99 (fun (x : I) => Type 98) (fun (y : Type 97) => y).", 4, 0);
    }

    /** I applied to the PARAMETERS and as many TERMS as there are INDICES. */
    private static void ends() {
        String[] binders = {"", "(p : A) ", "(p q : A) "};
        String[] given = {"", " p", " p q"};
        for (int parameters = 0; parameters <= 2; parameters++) {
            for (int indices = 0; indices <= 2; indices++) {
                for (int terms = 0; terms <= 4; terms++) {
                    prelude();
                    String text = "inductive I " + binders[parameters] + ": " + Bench.repeat("A -> ", indices) + "Prop := { | c : I"
                            + given[parameters] + Bench.repeat(" e", terms) + " }.";
                    if (terms == indices) {
                        BENCH.takes(text);
                        BENCH.tells(4, 3, 1 + 2 * (parameters + indices), 0, parameters, indices, 1, 0, 0);
                    } else {
                        BENCH.refuses(text, 8, 0);
                    }
                }
            }
        }
        prelude();
        for (String end : new String[] {"I", "I p", "I p q", "I q p e", "I p p e", "I q q e", "I e q e", "I p e e", "I p q e e",
            "(fun (x : Prop) => x) (I p q e)", "let x : A := e in I p q e", "A", "a", "p", "Prop", "fun (x : A) => I p q x",
            "(I p q) e -> a", "F e -> A"}) {
            BENCH.refuses("inductive I (p q : A) : A -> Prop := { | c : " + end + " }.", 8, 0);
            BENCH.refuses("inductive I (p q : A) : A -> Prop := { | b : I p q e | c : A -> " + end + " }.", 8, 0);
        }
        BENCH.takes("inductive I (p q : A) : A -> Prop := { | c : ((I p) q) e | d : (((I p q))) p | f : forall (x : A), (I p q x) }.");
        BENCH.shows(6, 1, "forall (x0 : A), forall (x1 : A), I x0 x1 x0");
        // A bound NAME that hides a PARAMETER is not that PARAMETER.
        BENCH.refuses("inductive J (p : A) : Prop := { | g : forall (p : A), J p }.", 8, 0);
        BENCH.takes("inductive J (p : A) : A -> Prop := { | g : forall (q : A), J p q }.");
    }

    /** I stands in no TERM for an INDEX, at the end and in a RECURSIVE ARGUMENT. */
    private static void ownName() {
        prelude();
        String family = "inductive I : Type 1 -> Type 1 := { | c : ";
        for (String term : new String[] {"I (I Type 0)", "I (I Type 0) -> I Type 0", "I (A -> I Type 0) -> I Type 0",
            "(A -> I (I Type 0)) -> I Type 0", "I (I Type 0 -> A) -> I Type 0", "I (A -> Type 0) -> I (I Type 0 -> A)",
            "I Type 0 -> I (I Type 0)", "(I (I Type 0) -> A) -> I Type 0"}) {
            BENCH.refuses(family + term + " }.", 8, 0);
        }
        BENCH.refuses("inductive I : Type 0 -> Type 1 := { | c : I (I A) }.", 8, 0);
        BENCH.takes("inductive I : Type 0 -> Type 1 := { | c : (A -> I A) -> I (A -> A) -> I (A -> A -> A) }.");
        BENCH.tells(5, 4, 19, 0, 0, 0, 0, 2, 2);
    }

    private static void recursiveArguments() {
        recursive("I p", true);
        recursive("A -> I p", true);
        recursive("A -> A -> I p", true);
        recursive("forall (x : A), F x -> I p", true);
        recursive("I p -> I p", false);
        recursive("A -> I p -> I p", false);
        recursive("(A -> I p) -> I p", false);
        recursive("(I p -> A) -> I p", false);
        recursive("I p -> A", false);
        recursive("A -> I p -> A", false);
        recursive("I e", false);
        recursive("A -> I e", false);
        recursive("forall (p : A), I p", false);
        recursive("(fun (x : Type 0) => x) (I p)", false);
        recursive("let x : A := e in I p", false);
        recursive("A -> let x : A := e in I p", false);
        recursive("(fun (x : A) => I p) e", false);
        prelude();
        // Without I it may be what it likes, and is not RECURSIVE.
        BENCH.takes("inductive I (p : A) : Type 0 := { | c : A -> (let x : Type 0 := A in x -> x) -> (fun (x : Type 0) => x) A -> "
                + "((A -> A) -> A) -> I p }.");
        BENCH.tells(5, 4, 26, 0, 0, 0, 0, 4, 0);
    }

    private static void recursive(String type, boolean fits) {
        prelude();
        String alone = "inductive I (p : A) : Type 0 := { | c : (" + type + ") -> I p }.";
        String among = "inductive I (p : A) : Type 0 := { | b : I p | c : A -> (" + type + ") -> A -> I p }.";
        if (!fits) {
            BENCH.refuses(alone, 8, 0);
            BENCH.refuses(among, 8, 0);
            return;
        }
        BENCH.takes(among);
        Bench.due("ARGUMENTS", BENCH.kernel().constant(6, 6), 3);
        Bench.due("RECURSIVE ones", BENCH.kernel().constant(6, 7), 1);
        prelude();
        BENCH.takes(alone);
        Bench.due("ARGUMENTS", BENCH.kernel().constant(5, 6), 1);
        Bench.due("RECURSIVE ones", BENCH.kernel().constant(5, 7), 1);
    }

    /** SORTOF, 7 and 8 for each ARGUMENT, then the end, then SORTOF of the whole; one CONSTRUCTOR behind the other. */
    private static void orderOfTests() {
        prelude();
        String[] arguments = {"e e", "e", "Type 0", "(I -> A)"};
        int[] faults = {5, 6, 7, 8};
        for (int i = 0; i < arguments.length; i++) {
            for (String behind : new String[] {"e e", "e", "Type 0", "(I -> A)", "I", "A"}) {
                BENCH.refuses("inductive I : Type 0 := { | c : " + arguments[i] + " -> " + behind + " -> I }.", faults[i], 0);
                BENCH.refuses("inductive I : Type 0 := { | c : A -> " + arguments[i] + " -> " + behind + " -> A }.", faults[i], 0);
                BENCH.refuses("inductive I : Type 0 := { | c : " + arguments[i] + " -> I | d : " + behind + " }.", faults[i], 0);
            }
        }
        // One ARGUMENT with two of them: SORTOF before 7, 7 before 8.
        BENCH.refuses("inductive I : Type 0 := { | c : ((I -> A) -> e) -> I }.", 6, 0);
        BENCH.refuses("inductive I : Type 0 := { | c : ((I -> A) -> Type 0) -> I }.", 7, 0);
        // The form of the end comes before its type: 8, then 4.
        BENCH.refuses("inductive I : A -> Prop := { | c : I a a }.", 8, 0);
        BENCH.refuses("inductive I : A -> Prop := { | c : I a }.", 4, 0);
        BENCH.refuses("inductive I : A -> Prop := { | c : I (e e) }.", 5, 0);
        BENCH.refuses("inductive I : A -> Prop := { | c : I a | d : A }.", 4, 0);
        BENCH.refuses("inductive I : A -> Prop := { | c : I e | d : I a }.", 4, 0);
        BENCH.refuses("inductive I : A -> Prop := { | c : I a -> I e }.", 4, 0);
    }

    private static void numbers() {
        for (int members = 0; members <= 3; members++) {
            for (int arguments = 0; arguments <= 3; arguments++) {
                prelude();
                StringBuilder text = new StringBuilder("inductive I : Type 0 := {");
                for (int i = 0; i < members; i++) {
                    text.append(" | c").append(i).append(" : ").append(Bench.repeat(i % 2 == 0 ? "A -> " : "I -> ", arguments)).append("I");
                }
                BENCH.takes(text.append(" }.").toString());
                BENCH.tells(4, 3, 1, 0, 0, 0, members, 0, 0);
                for (int i = 0; i < members; i++) {
                    BENCH.tells(5 + i, 4, 1 + 2 * arguments, 0, 0, 0, 0, arguments, i % 2 == 0 ? 0 : arguments);
                }
                Bench.due("constants", BENCH.kernel().count(0), 5 + members);
            }
        }
    }

    /** rec I is told for SORT e by showRec and by INFER alike: 9 is for what is not allowed. */
    private static void large(String family, boolean allowed) {
        prelude();
        BENCH.takes("axiom r : a -> Prop. axiom G : A -> Prop. axiom H : A -> A.", 3);
        BENCH.takes(family);
        BENCH.takes("eval rec I Prop.");
        Bench.due("showRec(7, 0)", BENCH.kernel().showRec(7, 0) > 0, true);
        for (int sort : new int[] {1, 2, 99, 100}) {
            String text = "eval rec I Type " + (sort - 1) + ".";
            if (allowed) {
                BENCH.takes(text);
                Bench.due(family, BENCH.kernel().showRec(7, sort) > 0, true);
            } else {
                BENCH.refuses(text, 9, 0);
                BENCH.throwsAndKeeps(family, java.util.NoSuchElementException.class, () -> BENCH.kernel().showRec(7, sort));
            }
        }
    }

    private static void allowedSorts() {
        large("inductive I : Type 0 := { }.", true);
        large("inductive I : Type 0 := { | c : A -> I | d : I }.", true);
        large("inductive I : Type 7 := { | c : Type 0 -> I -> I }.", true);
        large("inductive I : Prop := { }.", true);
        large("inductive I : A -> Prop := { }.", true);
        large("inductive I : Prop := { | c : I }.", true);
        large("inductive I : Prop := { | c : a -> I }.", true);
        large("inductive I : Prop := { | c : a -> a -> I -> (A -> I) -> I }.", true);
        large("inductive I : Prop := { | c : forall (x : a), r x -> I }.", true);
        large("inductive I (p : Type 0) (q : p) : p -> Prop := { | c : I p q q }.", true);
        large("inductive I : A -> Prop := { | c : forall (x : A), I x }.", true);
        large("inductive I : A -> A -> Prop := { | c : forall (x y : A), I x y }.", true);
        large("inductive I : A -> A -> Prop := { | c : forall (x y : A), I y x }.", true);
        large("inductive I : A -> A -> Prop := { | c : forall (x : A), I x x }.", true);
        large("inductive I : A -> A -> Prop := { | c : forall (x : A), I e x }.", true);
        large("inductive I : A -> Prop := { | c : forall (x : A), G x -> I x }.", true);
        large("inductive I : Type 0 -> Prop := { | c : forall (x : Type 0), I x }.", true);
    }

    private static void refusedSorts() {
        large("inductive I : Prop := { | c : I | d : I }.", false);
        large("inductive I : A -> Prop := { | c : forall (x : A), I x | d : forall (x : A), I x }.", false);
        large("inductive I : Prop := { | c : A -> I }.", false);
        large("inductive I : Prop := { | c : a -> A -> I }.", false);
        large("inductive I : Prop := { | c : A -> a -> I }.", false);
        large("inductive I (p : A) : Prop := { | c : A -> I p }.", false);
        large("inductive I : A -> Prop := { | c : forall (x : A), I e }.", false);
        large("inductive I : A -> Prop := { | c : forall (x : A), I (H x) }.", false);
        large("inductive I : A -> A -> Prop := { | c : forall (x y : A), I x x }.", false);
        large("inductive I : A -> A -> Prop := { | c : forall (x y : A), I y y }.", false);
        large("inductive I : A -> Prop := { | c : forall (x : A), A -> I x }.", false);
        large("inductive I : Prop := { | c : Type 0 -> I }.", false);
        large("inductive I : (A -> A) -> Prop := { | c : forall (x : A -> A), I (fun (y : A) => x y) }.", false);
    }

    /** A step needs n above the place of the MAJOR: with one TERM fewer there is none, what is behind it stays. */
    private static void majorPlaces() {
        BENCH.renew();
        BENCH.takes("inductive nat : Type 0 := { | O : nat | S : nat -> nat }.");
        BENCH.takes("inductive vec (X : Type 0) : nat -> Type 0 := { | nil : vec X O | "
                + "cons : forall (n : nat), X -> vec X n -> vec X (S n) }.");
        BENCH.takes("inductive one : Type 0 := { | it : one }. inductive none : Type 0 := { }. axiom no : none.", 3);
        String motive = "(fun (x : nat) => nat -> nat)";
        String shown = "(fun (x0 : nat) => nat -> nat)";
        String rest = " S (fun (x : nat) (y : nat -> nat) => y)";
        String shownRest = " S (fun (x0 : nat) => fun (x1 : nat -> nat) => x1)";
        BENCH.evaluates("rec nat Type 0", "rec nat Type 0");
        BENCH.evaluates("rec nat Type 0 " + motive, "rec nat Type 0 " + shown);
        BENCH.evaluates("rec nat Type 0 " + motive + rest, "rec nat Type 0 " + shown + shownRest);
        BENCH.evaluates("rec nat Type 0 " + motive + rest + " O", "S");
        BENCH.evaluates("rec nat Type 0 " + motive + rest + " (S O)", "S");
        BENCH.evaluates("rec nat Type 0 " + motive + rest + " (S O) O", "S O");
        String vec = "rec vec Type 0 nat (fun (n : nat) (v : vec nat n) => nat -> nat) S "
                + "(fun (n x : nat) (v : vec nat n) (f : nat -> nat) => f)";
        String shownVec = "rec vec Type 0 nat (fun (x0 : nat) => fun (x1 : vec nat x0) => nat -> nat) S "
                + "(fun (x0 : nat) => fun (x1 : nat) => fun (x2 : vec nat x0) => fun (x3 : nat -> nat) => x3)";
        BENCH.evaluates(vec, shownVec);
        BENCH.evaluates(vec + " O", shownVec + " O");
        BENCH.evaluates(vec + " O (nil nat)", "S");
        BENCH.evaluates(vec + " O (nil nat) O", "S O");
        BENCH.evaluates(vec + " (S O) (cons nat O O (nil nat)) O", "S O");
        BENCH.evaluates("rec one Type 0 (fun (x : one) => one)", "rec one Type 0 (fun (x0 : one) => one)");
        // What stands before the place of the MAJOR is none, though it is a CONSTRUCTOR.
        BENCH.evaluates("rec one Type 0 (fun (x : one) => one) it", "rec one Type 0 (fun (x0 : one) => one) it");
        BENCH.takes("inductive fin : one -> Type 0 := { | fine : forall (x : one), fin x }.");
        BENCH.evaluates("rec fin Type 0 (fun (x : one) (y : fin x) => one) (fun (x : one) => x) it",
                "rec fin Type 0 (fun (x0 : one) => fun (x1 : fin x0) => one) (fun (x0 : one) => x0) it");
        BENCH.evaluates("rec fin Type 0 (fun (x : one) (y : fin x) => one) (fun (x : one) => x) it (fine it)", "it");
        BENCH.evaluates("rec one Type 0 (fun (x : one) => one) it it", "it");
        BENCH.evaluates("rec none Type 0 (fun (x : none) => nat) no", "rec none Type 0 (fun (x0 : none) => nat) no");
        // The MAJOR is opened to find the CONSTRUCTOR, but stays as it was where there is none.
        BENCH.takes("axiom z : nat. def w : nat := z. axiom P : nat -> Prop.", 3);
        BENCH.evaluates("fun (y : nat) => rec nat Type 0 (fun (x : nat) => nat) O (fun (x y : nat) => x) ((fun (u : nat) => S u) y)",
                "fun (x0 : nat) => x0");
        BENCH.takes("axiom p : P (rec nat Type 0 (fun (x : nat) => nat) O (fun (x y : nat) => x) w).");
        BENCH.takes("check p : P (rec nat Type 0 (fun (x : nat) => nat) O (fun (x y : nat) => x) z).");
        BENCH.refuses("check p : P (rec nat Type 0 (fun (x : nat) => nat) O (fun (x y : nat) => y) z).", 4, 0);
    }

    /** INFER of REC costs the SIZE of its type, 9 comes before that cost. */
    private static void costsOfRecursors() {
        BENCH.renew();
        BENCH.takes("inductive nat : Type 0 := { | O : nat | S : nat -> nat }.");
        // forall (C : nat -> Prop): 4, C O ->: 4, (forall (n : nat), C n -> C (S n)) ->: 12, forall (x : nat), C x: 5.
        BENCH.costs("eval rec nat Prop.", 25);
        BENCH.costs("eval rec nat Type 0.", 25);
        BENCH.takes("inductive none : Prop := { }.");
        // forall (C : none -> Prop) (x : none), C x has a SIZE of 1 + 3 + 1 + 1 + 3.
        BENCH.costs("eval rec none Prop.", 9);
        BENCH.costs("eval rec none Type 99.", 9);
        BENCH.takes("inductive or : Prop := { | l : or | r : or }.");
        BENCH.refuses("eval rec or Type 0.", 9, 0);
    }

    private static void typingOfRecursors() {
        BENCH.renew();
        BENCH.takes("inductive nat : Type 0 := { | O : nat | S : nat -> nat }.");
        BENCH.refuses("eval rec nat Prop (fun (x : nat) => Prop).", 4, 0);
        BENCH.takes("eval rec nat Type 0 (fun (x : nat) => Prop).");
        BENCH.refuses("eval rec nat Type 0 (fun (x : nat) => Type 0).", 4, 0);
        BENCH.takes("eval rec nat Type 1 (fun (x : nat) => Type 0).");
        BENCH.refuses("eval rec nat Type 2 (fun (x : nat) => Type 0).", 4, 0);
        BENCH.refuses("eval rec nat Type 0 (fun (x : nat) => nat) S.", 4, 0);
        BENCH.refuses("eval rec nat Type 0 (fun (x : nat) => nat) O S.", 4, 0);
        BENCH.refuses("eval rec nat Type 0 (fun (x : nat) => nat) O (fun (x y : nat) => x) nat.", 4, 0);
        BENCH.refuses("eval rec nat Type 0 (fun (x : nat) => nat) O (fun (x y : nat) => x) O O.", 5, 0);
        BENCH.refuses("eval rec nat Type 0 nat.", 4, 0);
    }

    /** The hypotheses of a RULE: LAM xs with the types that the ARGUMENT has, among PARAMETERS, C and ms. */
    private static void rulesWithParameters() {
        BENCH.renew();
        BENCH.takes("axiom A : Type 0. axiom R : A -> A -> Prop. axiom nat : Type 0.", 3);
        BENCH.takes("inductive acc (X : Type 0) (Q : X -> X -> Prop) : X -> Prop := { | ain : forall (x : X), "
                + "(forall (y : X), Q y x -> acc X Q y) -> acc X Q x }.");
        BENCH.takes("axiom m : forall (x : A), (forall (y : A), R y x -> acc A R y) -> (forall (y : A), R y x -> nat) -> nat. "
                + "axiom x : A. axiom f : forall (y : A), R y x -> acc A R y.", 3);
        String motive = "(fun (y : A) (p : acc A R y) => nat)";
        String shown = "(fun (x2 : A) => fun (x3 : acc A R x2) => nat)";
        BENCH.evaluates("rec acc Type 0 A R " + motive + " m x (ain A R x f)",
                "m x f (fun (x0 : A) => fun (x1 : R x0 x) => rec acc Type 0 A R " + shown + " m x0 (f x0 x1))");
        // Two CONSTRUCTORS and two PARAMETERS: each m is its own.
        BENCH.takes("inductive tree (X Y : Type 0) : Type 0 := { | leaf : X -> tree X Y | "
                + "node : Y -> (Y -> X -> tree X Y) -> tree X Y -> tree X Y }.");
        BENCH.takes("axiom B : Type 0. axiom b : B. axiom l : A -> nat. axiom g : B -> A -> tree A B. "
                + "axiom n : B -> (B -> A -> tree A B) -> tree A B -> (B -> A -> nat) -> nat -> nat.", 5);
        BENCH.evaluates("rec tree Type 0 A B (fun (t : tree A B) => nat) l n (node A B b g (leaf A B x))",
                "n b g (leaf A B x) (fun (x0 : B) => fun (x1 : A) => rec tree Type 0 A B (fun (x2 : tree A B) => nat) l n (g x0 x1)) (l x)");
    }

    /** The TERMS for INDICES of a hypothesis come from the ARGUMENT's type, not from the end. */
    private static void rulesWithIndices() {
        BENCH.renew();
        BENCH.takes("inductive nat : Type 0 := { | O : nat | S : nat -> nat }. axiom A : Type 0. axiom x : A.", 3);
        BENCH.takes("inductive two (X : Type 0) : nat -> X -> Type 0 := { | zero : forall (y : X), two X O y | "
                + "more : forall (k : nat) (y z : X), two X k z -> (forall (j : nat), two X (S j) y) -> two X (S (S k)) y }.");
        BENCH.takes("axiom C : forall (k : nat) (y : A), two A k y -> Type 0. axiom c : forall (y : A), C O y (zero A y). "
                + "axiom v : A. axiom t : two A O x. axiom u : forall (j : nat), two A (S j) v. "
                + "axiom d : forall (k : nat) (y z : A) (t : two A k z) (u : forall (j : nat), two A (S j) y), C k z t -> "
                + "(forall (j : nat), C (S j) y (u j)) -> C (S (S k)) y (more A k y z t u).", 6);
        BENCH.evaluates("rec two Type 0 A C c d (S (S O)) v (more A O v x t u)",
                "d O v x t u (rec two Type 0 A C c d O x t) (fun (x0 : nat) => rec two Type 0 A C c d (S x0) v (u x0))");
        BENCH.evaluates("rec two Type 0 A C c d (S (S O)) v (more A O v x (zero A x) u)",
                "d O v x (zero A x) u (c x) (fun (x0 : nat) => rec two Type 0 A C c d (S x0) v (u x0))");
    }
}
