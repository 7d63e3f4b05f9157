/** The edges of the TEXT: every byte, the lengths of words and numbers, comments, nesting, the end. */
public final class TextEdgeTest {
    private static final Bench BENCH = new Bench();

    public static void main(String[] args) {
        bytesBetweenWords();
        bytesWithinWords();
        wordLengths();
        numbers();
        longestSigns();
        comments();
        theEnd();
        leastForms();
        nestingOfParts();
        nestingOfDeclarations();
        nestingBeforeOthers();
        scopes();
        declaredNames();
        recursorNames();
        orderOfFaults();
        Bench.finish(TextEdgeTest.class);
    }

    /** Each byte alone, where an ATOM or the : could stand. */
    private static void bytesBetweenWords() {
        for (int sign = 0; sign < 256; sign++) {
            BENCH.renew();
            String text = "check Prop " + (char) sign + " : Type 0.";
            if (sign == 32 || sign == 9 || sign == 10 || sign == 13) {
                BENCH.takes(text);
            } else if (sign == '%') {
                BENCH.refuses(text, 1, text.length());
            } else if (sign == ':' || sign == '(') {
                BENCH.refuses(text, 1, 13);
            } else {
                BENCH.refuses(text, isLetter(sign) ? 2 : 1, 11);
            }
        }
    }

    /** Each byte behind a letter: it goes on with the word, parts it from the : or can't stand there. */
    private static void bytesWithinWords() {
        for (int sign = 0; sign < 256; sign++) {
            BENCH.renew();
            String text = "axiom a" + (char) sign + " : Prop.";
            boolean within = isLetter(sign) || sign >= '0' && sign <= '9' || sign == '_' || sign == '\'';
            if (within || sign == 32 || sign == 9 || sign == 10 || sign == 13) {
                BENCH.takes(text);
                BENCH.shows(0, 0, within ? "a" + (char) sign : "a");
            } else if (sign == '%') {
                BENCH.refuses(text, 1, text.length());
            } else {
                BENCH.refuses(text, 1, sign == ':' ? 9 : 7);
            }
        }
    }

    private static boolean isLetter(int sign) {
        return sign >= 'a' && sign <= 'z' || sign >= 'A' && sign <= 'Z';
    }

    private static void wordLengths() {
        for (int length = 29; length <= 34; length++) {
            BENCH.renew();
            String word = Bench.repeat("w", length);
            String rare = "a" + Bench.repeat("_9'", 12).substring(0, length - 1);
            if (length <= 31) {
                BENCH.takes("axiom " + word + ":Prop.axiom " + rare + ":" + word + ".", 2);
                BENCH.shows(0, 0, word);
                BENCH.shows(1, 0, rare);
                BENCH.shows(1, 1, word);
                BENCH.evaluates("fun (" + rare + ":" + word + ")=>" + rare, "fun (x0 : " + word + ") => x0");
                BENCH.evaluates("let " + rare + ":" + word + ":=" + rare + " in " + rare, rare);
                BENCH.takes("inductive i" + rare.substring(1) + " : Prop := { | c" + rare.substring(1) + " : i"
                        + rare.substring(1) + " }.");
            } else {
                BENCH.refuses("axiom " + word + " : Prop.", 1, 6);
                BENCH.refuses("axiom b : " + word + ".", 1, 10);
                BENCH.refuses("eval fun (" + rare + " : Prop) => Prop.", 1, 10);
                BENCH.refuses("eval let " + rare + " : Prop := Prop in Prop.", 1, 9);
                BENCH.refuses("inductive " + rare + " : Prop := { }.", 1, 10);
                BENCH.refuses("inductive i : Prop := { | " + rare + " : i }.", 1, 26);
                BENCH.refuses("eval rec " + rare + " Prop.", 1, 9);
                BENCH.refuses(word, 1, 0);
            }
        }
        // Two words that differ in the last of 31 signs only are two.
        BENCH.renew();
        BENCH.takes("axiom " + Bench.repeat("w", 30) + "a : Prop. axiom " + Bench.repeat("w", 30) + "b : Prop. axiom "
                + Bench.repeat("w", 30) + " : Prop.", 3);
        BENCH.refuses("axiom " + Bench.repeat("w", 30) + "b : Prop.", 2, 6);
        // A word that only begins or ends like another one is not that one.
        BENCH.takes("axiom ax : Prop. axiom axiomm : Prop. axiom Typ : Prop. axiom Type' : Prop. axiom i : Prop. "
                + "axiom inn : Prop. axiom inductiv : Prop. axiom re : Prop. axiom recc : Prop. axiom fund : Prop. "
                + "axiom foral : Prop. axiom forall_ : Prop. axiom lets : Prop. axiom def0 : Prop. axiom theorems : Prop. "
                + "axiom eva : Prop. axiom checks : Prop. axiom Props : Prop.", 18);
    }

    private static void numbers() {
        BENCH.renew();
        BENCH.takes("check Type 0 : Type 1. check Type 00 : Type 01. check Type 000 : Type 001. check Type 0000 : Type 0001.", 4);
        BENCH.refuses("check Type 00000 : Type 1.", 1, 11);
        BENCH.refuses("check Type 0 : Type 00001.", 1, 20);
        BENCH.refuses("check Type 12345 : Prop.", 1, 11);
        BENCH.takes("check Type 97 : Type 98.");
        BENCH.refuses("check Prop : Type 98.", 4, 0);
        BENCH.refuses("check Prop : Type 99.", 7, 0);
        BENCH.refuses("check Prop : Type 0099.", 7, 0);
        BENCH.refuses("check Prop : Type 100.", 3, 18);
        BENCH.refuses("check Prop : Type 0100.", 3, 18);
        BENCH.refuses("check Prop : Type 101.", 3, 18);
        BENCH.refuses("check Prop : Type 9999.", 3, 18);
        // A NUMBER that can't stand there is 1, however great it is; one above 99 is judged before what is behind it.
        BENCH.refuses("check 99 : Prop.", 1, 6);
        BENCH.refuses("check 100 : Prop.", 1, 6);
        BENCH.refuses("check Prop 100 : Prop.", 1, 11);
        BENCH.refuses("check Type 100 @", 3, 11);
        BENCH.refuses("check Type 99 @", 1, 14);
        BENCH.takes("inductive T : Type 0 := { | t : T }.");
        BENCH.takes("eval rec T Type 99.");
        BENCH.refuses("eval rec T Type 100.", 3, 16);
        BENCH.refuses("eval rec T 0.", 1, 11);
        BENCH.refuses("eval rec T Type.", 1, 15);
        // Digits end a NUMBER, not a WORD.
        BENCH.takes("axiom x1 : Type 1->Type 2.");
        BENCH.refuses("check Type 1x1 : Prop.", 5, 0);
    }

    private static void longestSigns() {
        BENCH.renew();
        BENCH.takes("def a:Type 0:=Prop.def b:Type 0->Type 0:=fun(x:Type 0)=>x->x.", 2);
        BENCH.refuses("def c : Type 0 :== Prop.", 1, 17);
        BENCH.refuses("def c ::= Prop.", 1, 7);
        BENCH.refuses("def c : Type 0 : = Prop.", 1, 15);
        BENCH.refuses("def c : Type 0 = Prop.", 1, 15);
        BENCH.refuses("def c : Type 0 :", 1, 15);
        BENCH.refuses("def c : Type 0 =", 1, 15);
        BENCH.refuses("def c : Type 0 -", 1, 15);
        BENCH.refuses("def c : Type 0 ->", 1, 17);
        BENCH.refuses("eval Prop --> Prop.", 1, 10);
        BENCH.refuses("eval Prop ->> Prop.", 1, 12);
        BENCH.refuses("eval fun (x : Prop) ==> x.", 1, 20);
        BENCH.refuses("eval fun (x : Prop) =>> x.", 1, 22);
        BENCH.refuses("eval fun (x : Prop) -> x.", 1, 20);
        BENCH.refuses("eval Prop => Prop.", 1, 10);
    }

    private static void comments() {
        BENCH.renew();
        BENCH.takes("axiom a : Prop.%", 1);
        BENCH.takes("%\naxiom b : Prop.", 1);
        BENCH.takes("%%% axiom z : Prop.\n%\n\n% \naxiom c%d\n:%\nProp%.\n.% @", 1);
        BENCH.refuses("axiom z : Prop%\r.", 1, 17);
        BENCH.refuses("axiom z : Prop%.", 1, 16);
        BENCH.takes("axiom z : Prop%\n.", 1);
        BENCH.refuses("axi%\nom y : Prop.", 1, 0);
        BENCH.refuses("def y : Type 0 :%\n= Prop.", 1, 15);
        BENCH.refuses("axiom y : Type 0 -%\n> Prop.", 1, 17);
        BENCH.refuses("axiom y : Type%\n 100.", 3, 17);
        BENCH.refuses("check Type 0%\n0 : Type 1.", 1, 14);
        BENCH.takes("% @ \377 \0\n", 0);
        BENCH.takes("%", 0);
        BENCH.takes("\n", 0);
    }

    /** The end stands where the TEXT ends, behind all blanks and comments. */
    private static void theEnd() {
        BENCH.renew();
        String whole = "def a : Type 0 := forall (x : Prop) , let y : Prop := x in ( y ) -> rec I Type 0 .";
        BENCH.takes("inductive I : Prop := { }.");
        int signs = 0;
        for (int cut = 1; cut < whole.length(); cut++) {
            if (whole.charAt(cut) == ' ') {
                signs++;
                String text = whole.substring(0, cut);
                BENCH.refuses(text, 1, cut);
                BENCH.refuses(text + "\n %.", 1, cut + 4);
            }
        }
        Bench.due("signs before which the text was cut", signs > 20, true);
        String family = "inductive J ( A : Prop ) : Prop := { | c : J A | d : J A } .";
        for (int cut = 1; cut < family.length(); cut++) {
            if (family.charAt(cut) == ' ') {
                BENCH.refuses(family.substring(0, cut), 1, cut);
            }
        }
        BENCH.takes(family);
        // Behind the last declaration the end may stand; what is no declaration may not.
        BENCH.takes("eval Prop.  ");
        BENCH.takes("eval Prop. x", 1, 1, 11);
        BENCH.takes("eval Prop. .", 1, 1, 11);
        BENCH.takes("eval Prop. @", 1, 1, 11);
        BENCH.takes("eval Prop. eval", 1, 1, 15);
    }

    private static void leastForms() {
        BENCH.renew();
        // None or more CONSTRUCTORS, perhaps no BINDERS; BINDERS are one or more of one or more NAMES.
        BENCH.takes("inductive E : Prop := { }.");
        BENCH.tells(0, 3, 1, 0, 0, 0, 0, 0, 0);
        BENCH.takes("inductive U : Prop := { | u : U }.");
        BENCH.takes("inductive V (p : Prop) : Prop := { | v : V p | w : V p }.");
        BENCH.tells(3, 3, 3, 0, 1, 0, 2, 0, 0);
        BENCH.takes("inductive X (p q : Prop) (r : p) : q -> Prop := { }.");
        BENCH.tells(6, 3, 9, 0, 3, 1, 0, 0, 0);
        BENCH.refuses("inductive Y ( : Prop) : Prop := { }.", 1, 14);
        BENCH.refuses("inductive Y (p) : Prop := { }.", 1, 14);
        BENCH.refuses("inductive Y (p : ) : Prop := { }.", 1, 17);
        BENCH.refuses("inductive Y (p : Prop) (q : Prop := { }.", 1, 33);
        BENCH.refuses("inductive Y : Prop := { | }.", 1, 26);
        BENCH.refuses("inductive Y : Prop := { y : Y }.", 1, 24);
        BENCH.refuses("inductive Y : Prop := { | y : Y , }.", 1, 32);
        BENCH.refuses("inductive Y : Prop := | y : Y.", 1, 22);
        BENCH.refuses("inductive Y : Prop := { | y : Y | }.", 1, 34);
        BENCH.refuses("eval forall , Prop.", 1, 12);
        BENCH.refuses("eval forall x, Prop.", 1, 12);
        BENCH.refuses("eval forall (x : Prop) x.", 1, 23);
        BENCH.refuses("eval forall (x : Prop) (), x.", 1, 24);
        BENCH.refuses("eval let x : Prop in x.", 1, 18);
        BENCH.refuses("eval let x y : Prop := E in x.", 1, 11);
        BENCH.refuses("eval let : Prop := E in E.", 1, 9);
        BENCH.refuses("eval .", 1, 5);
        BENCH.refuses("eval () .", 1, 6);
        BENCH.refuses("eval E -> .", 1, 10);
        BENCH.refuses("eval E -> -> E.", 1, 10);
        // fun, forall and let are no ATOMS, but what they are bodies of may be any TERM.
        BENCH.refuses("eval V fun (x : Prop) => x.", 1, 7);
        BENCH.refuses("eval V let x : Prop := E in x.", 1, 7);
        BENCH.takes("eval E -> forall (x : Prop), x -> let y : Prop := x in y.");
    }

    /** What stands in 99 and in 100 of them is judged as elsewhere. */
    private static void nests(String opening) {
        for (int times = 99; times <= 100; times++) {
            String text = "eval " + Bench.repeat(opening, times);
            BENCH.refuses(text + "@", 1, text.length());
            BENCH.refuses(text + "none", 2, text.length());
        }
    }

    /** The first TERM in the 101st of them, so many signs behind its beginning, has fault 3, whatever it is. */
    private static void stops(String opening, int part) {
        String hundred = "eval " + Bench.repeat(opening, 100);
        for (String standing : new String[] {"Prop", "none", "@", ")", "", "100", Bench.repeat("w", 32)}) {
            String text = hundred + opening.substring(0, part) + standing;
            BENCH.refuses(text, 3, hundred.length() + part);
        }
    }

    private static void nestingOfParts() {
        BENCH.renew();
        String[] openings = {"(", "Prop (", "Prop -> ", "fun (x : Prop) => ", "forall (x : Prop), ", "let x : ",
            "let x : Prop := ", "let x : Prop := Prop in ", "fun (x : ", "forall (x : ", "fun (x : Prop) (y : ",
            "forall (x y z : "};
        int[] parts = {1, 6, 8, 9, 12, 8, 8, 8, 9, 12, 9, 16};
        for (int i = 0; i < openings.length; i++) {
            nests(openings[i]);
            stops(openings[i], parts[i]);
        }
        // What has ended is not around any more: 100 deep again and again.
        String deep = Bench.repeat("(", 100) + "Prop" + Bench.repeat(")", 100);
        BENCH.refuses("eval " + deep + " " + deep + ".", 5, 0);
        BENCH.takes("check " + deep + " : Type 0.");
        String inner = Bench.repeat("(", 99) + "Prop" + Bench.repeat(")", 99);
        BENCH.takes("eval " + inner + " -> " + inner + ".");
        BENCH.takes("eval forall (x : " + inner + ") (y : " + inner + "), " + inner + ".");
        BENCH.takes("eval fun (x : " + inner + ") (y : " + inner + ") => " + inner + ".");
        BENCH.refuses("eval let x : " + inner + " := " + inner + " in " + inner + ".", 4, 0);
        for (String text : new String[] {deep + " -> ", "forall (x : ", "forall (x : Prop), ", "fun (x : Prop) => ",
            "let x : ", "let x : Prop := ", "let x : Prop := Prop in "}) {
            BENCH.refuses("eval " + text + Bench.repeat("(", 99) + "@", 1, 5 + text.length() + 99);
            BENCH.refuses("eval " + text + Bench.repeat("(", 100) + "@", 3, 5 + text.length() + 100);
        }
    }

    /** Each TERM of a DECLARATION begins 0 deep, those of BINDERS 1 deep. */
    private static void nestingOfDeclarations() {
        for (String text : new String[] {"axiom a : ", "def a : ", "def a : Prop := ", "theorem a : ",
            "theorem a : Prop := ", "check ", "check Prop : ", "eval ", "inductive a : ", "inductive a (x : Prop) : ",
            "inductive a : Prop := { | b : ", "inductive a : Prop := { | b : a | c : "}) {
            BENCH.renew();
            BENCH.refuses(text + Bench.repeat("(", 100) + "@", 1, text.length() + 100);
            BENCH.refuses(text + Bench.repeat("(", 101) + "@", 3, text.length() + 101);
        }
        for (String text : new String[] {"inductive a (x : ", "inductive a (x y : ", "inductive a (x : Prop) (y : "}) {
            BENCH.refuses(text + Bench.repeat("(", 99) + "@", 1, text.length() + 99);
            BENCH.refuses(text + Bench.repeat("(", 100) + "@", 3, text.length() + 100);
        }
        // A DECLARATION that failed deep within leaves nothing to the next one.
        BENCH.takes("eval " + Bench.repeat("(", 100) + "Prop" + Bench.repeat(")", 100) + ".");
    }

    private static void nestingBeforeOthers() {
        BENCH.renew();
        // The place is that of the sign, not of the blanks before it.
        BENCH.refuses("eval " + Bench.repeat("(", 101) + " \n %x\n  Prop", 3, 114);
        BENCH.refuses("eval " + Bench.repeat("(", 101) + "  ", 3, 108);
        // What stands before it is judged before it.
        BENCH.refuses("eval none " + Bench.repeat("(", 101) + "Prop", 2, 5);
        BENCH.refuses("eval " + Bench.repeat("(", 50) + "." + Bench.repeat("(", 101) + "Prop", 1, 55);
        // Fault 3 is told before a fault of what is 100 deep and stands behind it.
        BENCH.refuses("eval " + Bench.repeat("(", 100) + "(Prop) none", 3, 106);
    }

    private static void scopes() {
        BENCH.renew();
        BENCH.takes("axiom A : Type 0. axiom a : A. axiom B : A -> Type 0.", 3);
        // Those before it in the same ( ) are not known, those in the ( ) before are.
        BENCH.evaluates("fun (x : A) (y : B x) => y", "fun (x0 : A) => fun (x1 : B x0) => x1");
        BENCH.refusesAt("eval fun (x y : B x) => y.", 2, "x) =>");
        BENCH.evaluates("fun (x : A) (x y : B x) => x", "fun (x0 : A) => fun (x1 : B x0) => fun (x2 : B x0) => x1");
        BENCH.evaluates("fun (a b : A) (c d : B a) (e : B b) => c",
                "fun (x0 : A) => fun (x1 : A) => fun (x2 : B x0) => fun (x3 : B x0) => fun (x4 : B x1) => x2");
        BENCH.evaluates("fun (x x x : A) => x", "fun (x0 : A) => fun (x1 : A) => fun (x2 : A) => x2");
        BENCH.evaluates("fun (x : A) => (fun (x : A -> A) => x) (fun (y : A) => x)", "fun (x0 : A) => fun (x1 : A) => x0");
        // -> binds no NAME, but what is bound outside is found behind it.
        BENCH.evaluates("forall (x : A), A -> B x", "forall (x0 : A), A -> B x0");
        // let knows its NAME behind in alone.
        BENCH.evaluates("let a : A := a in a", "a");
        BENCH.refusesAt("eval let x : A := x in x.", 2, "x in");
        BENCH.refusesAt("eval let x : B x := a in x.", 2, "x :=");
        BENCH.refusesAt("eval (let x : A := a in x) x.", 2, "x.");
        BENCH.refusesAt("eval (fun (x : A) => x) x.", 2, "x.");
        BENCH.refusesAt("eval (forall (x : A), B x) x.", 2, "x.");
        // Bound NAMES hide CONSTANTS, also in the BINDERS behind them.
        BENCH.evaluates("fun (a : Type 0) (b : a) => b", "fun (x0 : Type 0) => fun (x1 : x0) => x1");
        BENCH.takes("inductive W (a : Type 0) (b : a) : a -> Prop := { | w : W a b b }.");
        BENCH.shows(3, 1, "forall (x0 : Type 0), x0 -> x0 -> Prop");
        BENCH.shows(4, 1, "forall (x0 : Type 0), forall (x1 : x0), W x0 x1 x1");
        BENCH.refusesAt("inductive Z (x y : B x) : Prop := { }.", 2, "x) :");
        // PARAMETERS are known in T and in each CONSTRUCTOR, not behind the DECLARATION.
        BENCH.takes("inductive Z (x : A) : B x -> Prop := { | z : forall (x' : B x), Z x x' }.");
        BENCH.refusesAt("eval Z x.", 2, "x.");
    }

    private static void declaredNames() {
        BENCH.renew();
        BENCH.takes("inductive I : Prop := { | c : I }. axiom a : Prop. def d : Type 0 := Prop. theorem t : Type 0 := Prop.", 4);
        for (String name : new String[] {"I", "c", "a", "d", "t"}) {
            BENCH.refuses("axiom " + name + " @", 2, 6);
            BENCH.refuses("def " + name + " @", 2, 4);
            BENCH.refuses("theorem " + name + " @", 2, 8);
            BENCH.refuses("inductive " + name + " @", 2, 10);
            BENCH.refuses("inductive J : Prop := { | " + name + " @", 2, 26);
            BENCH.takes("eval fun (" + name + " : Prop) => " + name + ".");
            BENCH.takes("eval let " + name + " : Type 0 := Prop in " + name + ".");
        }
        BENCH.refusesAt("inductive J : Prop := { | J : J }.", 2, "J : J");
        BENCH.refusesAt("inductive J : Prop := { | j : J | j : J }.", 2, "j : J }");
        BENCH.refusesAt("inductive J (I : J) : Prop := { }.", 2, "J)");
        BENCH.refusesAt("inductive J : J := { }.", 2, "J :=");
        BENCH.refusesAt("inductive J : Prop := { | j : J | k : j }.", 2, "j }");
        BENCH.refusesAt("inductive J : Prop := { | j : j }.", 2, "j }");
        BENCH.refusesAt("axiom b : b.", 2, "b.");
        BENCH.refusesAt("def b : Prop := b.", 2, "b.");
        // A PARAMETER may bear any NAME, that of the family too; it hides the family.
        BENCH.refuses("inductive J (J : Prop) : Prop := { | j : J J }.", 8, 0);
        BENCH.takes("inductive J (j : Prop) : Prop := { | j : J j }.");
    }

    private static void recursorNames() {
        BENCH.renew();
        BENCH.takes("inductive I : Type 0 := { | c : I }. axiom a : Prop. def d : Type 0 := I. theorem t : Type 0 := I.", 4);
        for (String name : new String[] {"c", "a", "d", "t", "none"}) {
            BENCH.refuses("eval rec " + name + " @", 2, 9);
        }
        BENCH.refuses("eval rec I @", 1, 11);
        BENCH.refuses("eval rec (I) Prop.", 1, 9);
        BENCH.refuses("eval rec rec Prop.", 1, 9);
        BENCH.refuses("eval rec Prop.", 1, 9);
        BENCH.refuses("eval fun (I : Prop) => rec I Prop.", 2, 27);
        BENCH.refuses("eval let I : Type 0 := Prop in rec I Prop.", 2, 35);
        BENCH.takes("eval rec I Prop. eval rec I Type 0. eval rec I Type 99.", 3);
        // Its own CONSTRUCTORS do not know rec of it, nor do its PARAMETERS and T; those of others do.
        BENCH.refusesAt("inductive J : Prop := { | j : (rec J Prop) -> J }.", 2, "J Prop");
        BENCH.refusesAt("inductive J (x : rec J Prop) : Prop := { }.", 2, "J Prop");
        BENCH.refusesAt("inductive J : rec J Prop := { }.", 2, "J Prop");
        BENCH.takes("inductive J : Prop := { | j : rec I Type 1 (fun (x : I) => Type 0) I c -> J }.");
    }

    /** What stands first in the TEXT is told first; what needs the whole DECLARATION comes last. */
    private static void orderOfFaults() {
        BENCH.renew();
        BENCH.refuses("eval Prop Prop none.", 2, 15);
        BENCH.refuses("eval Prop Prop", 1, 14);
        BENCH.refuses("eval Type 99 Type 100.", 3, 18);
        BENCH.refuses("eval Prop Prop. none", 5, 0);
        BENCH.takes("eval Prop. none", 1, 1, 11);
        BENCH.takes("axiom a : Prop. axiom a : Prop.", 1, 2, 22);
        BENCH.takes("axiom b : a. axiom c : b. axiom d : a.", 1, 6, 13);
        BENCH.takes("% x\n  axiom d : a. eval d d. eval", 1, 5, 19);
    }
}
