/** The edges of the TOKENS: a test for each sentence. */
public final class EdgeTokenTest {
    private static final int NONE = TrajectoryCheck.NONE;
    private static final String[] WORDS = {"input", "wire", "latch", "given", "then", "is", "if", "at", "to"};

    public static void main(String[] args) {
        blanksAndByteTenBetween();
        noOtherByteBetween();
        noBlankNeeded();
        noBlankInside();
        nameBeginsWithASmallLetter();
        nameGoesOn();
        nameAtMostEight();
        namesDifferInAnyLetter();
        wordsAreNoNames();
        wordsAndMoreAreNames();
        variableBeginsWithACapital();
        variableGoesOn();
        variableAtMostFour();
        variablesDifferInAnyLetter();
        numberGoesOn();
        numberAtMostFour();
        asLongAsCanBe();
        signs();
        Drive.finish("EdgeTokenTest");
    }

    private static boolean isSmall(int b) {
        return b >= 'a' && b <= 'z';
    }

    private static boolean isCapital(int b) {
        return b >= 'A' && b <= 'Z';
    }

    private static boolean isDigit(int b) {
        return b >= '0' && b <= '9';
    }

    private static boolean isBlank(int b) {
        return b == 32 || b == 10;
    }

    private static void circuit(String text, int want) {
        Drive.circuit(new TrajectoryCheck(), text, want);
    }

    private static void assertion(String text, int want) {
        Drive.assertion(Drive.with("input a;"), text, want);
    }

    private static void bad(String marked) {
        Drive.faultyAssertion(Drive.with("input a;"), marked);
    }

    /** "with blanks (32) and byte 10 between where one likes". */
    private static void blanksAndByteTenBetween() {
        String[] between = {" ", "\n", "  ", "\n\n", " \n \n ", Drive.repeat(" ", "", 40)};
        for (String gap : between) {
            Drive.with(gap + "input w , x ; wire y = ! ( w & x ) ; ".replace(" ", gap));
            assertion((" given a is ( A ) if B at 0 to 1 , a is 1 then a is ! A . ").replace(" ", gap), NONE);
        }
    }

    private static void noOtherByteBetween() {
        for (int b = 0; b < 256; b++) {
            circuit((char) b + "", isBlank(b) ? NONE : 0);
            // Behind a point nothing but blanks can stand, before the first word neither.
            assertion("given a is 1 then a is 1." + (char) b, isBlank(b) ? NONE : 25);
            assertion((char) b + " given a is 1 then a is 1.", isBlank(b) ? NONE : 0);
        }
    }

    private static void noBlankNeeded() {
        Drive.with("input a,b;wire c=!(a&b)|1^0;latch d=c;");
        assertion("given a is(A)if(B)at 0to 1,a is 1if 1at 1then a is!A.", NONE);
        assertion("given a isA ifB then a is(1).", NONE);
    }

    private static void noBlankInside() {
        Drive.faultyCircuit("@in put a;");
        Drive.faultyCircuit("input a @b;");
        Drive.faultyCircuit("input a\n@b;");
        bad("given a is A @A then a is 1.");
        bad("given a is A\n@1 then a is 1.");
        bad("given a is 1 at 1 @1 then a is 1.");
    }

    /** "NAME: a small letter", and what else can stand where one is due. */
    private static void nameBeginsWithASmallLetter() {
        for (int b = 0; b < 256; b++) {
            circuit("input " + (char) b + ";", isSmall(b) ? NONE : isBlank(b) ? 7 : 6);
            circuit("input " + (char) b + "a;", isSmall(b) || isBlank(b) ? NONE : 6);
        }
    }

    /** "then small letters, digits and _". */
    private static void nameGoesOn() {
        for (int b = 0; b < 256; b++) {
            TrajectoryCheck x = new TrajectoryCheck();
            boolean goesOn = isSmall(b) || isDigit(b) || b == '_';
            int fault = goesOn || b == ',' ? NONE : isBlank(b) || b == ';' ? 9 : 8;
            Drive.circuit(x, "input ab" + (char) b + "cd;", fault);
            Drive.due("nodes with byte " + b, x.count(0), goesOn ? 1 : b == ',' ? 2 : 0);
        }
    }

    /** "at most 8"; "of what is too long its first". */
    private static void nameAtMostEight() {
        Drive.with("input abcdefgh, a1234567, a_______, zzzzzzzz;");
        Drive.faultyCircuit("input @abcdefghi;");
        Drive.faultyCircuit("input @a12345678;");
        Drive.faultyCircuit("input @a________;");
        Drive.faultyCircuit("wire @abcdefghi = 0;");
        Drive.faultyCircuit("wire a = @abcdefghi;");
        Drive.faultyCircuit("input abcdefgh; wire a = abcdefgh & @abcdefghi;");
        Drive.faultyCircuit("input @" + Drive.repeat("a", "", 1990) + ";");
        TrajectoryCheck x = Drive.with("input abcdefgh;");
        Drive.assertion(x, "given abcdefgh is 1 then abcdefgh is 1.", NONE);
        Drive.faultyAssertion(x, "given @abcdefghi is 1 then abcdefgh is 1.");
        Drive.faultyAssertion(x, "given abcdefgh is 1 then abcdefgh is 1 @abcdefghi");
    }

    private static void namesDifferInAnyLetter() {
        TrajectoryCheck x = Drive.with("input aaaaaaaa, aaaaaaab, aaaaaaba, baaaaaaa, aaaaaaa, aa, a, a_, a0;");
        Drive.due("nodes", x.count(0), 9);
        Drive.faultyCircuit("input aaaaaaaa, aaaaaaab, @aaaaaaaa;");
        Drive.faultyCircuit("input aaaaaaaa; wire b = @aaaaaaa;");
        Drive.faultyCircuit("input aaaaaaaa; wire b = @baaaaaaa;");
    }

    /** "not the words input wire latch given then is if at to". */
    private static void wordsAreNoNames() {
        for (String word : WORDS) {
            Drive.faultyCircuit("input @" + word + ";");
            Drive.faultyCircuit("input a, @" + word + ";");
            Drive.faultyCircuit("wire @" + word + " = 0;");
            Drive.faultyCircuit("latch @" + word + " = 0;");
            Drive.faultyCircuit("wire a = @" + word + ";");
            bad("given @" + word + " is 1 then a is 1.");
            bad("given a is 1 then @" + word + " is 1.");
        }
    }

    private static void wordsAndMoreAreNames() {
        for (String word : WORDS) {
            String[] names = {word + "s", word + "0", word + "_", "a" + word, word.substring(1), word.substring(0, 1)};
            for (String name : names) {
                TrajectoryCheck x = Drive.with("input " + name + "; wire zz = " + name + ";");
                Drive.assertion(x, "given " + name + " is 1 then " + name + " is 1.", NONE);
            }
            Drive.faultyCircuit("@" + word + "s a;");
            Drive.faultyCircuit("@" + word.toUpperCase() + " a;");
        }
    }

    /** "VARIABLE: a capital letter", and what else can stand where one is due. */
    private static void variableBeginsWithACapital() {
        for (int b = 0; b < 256; b++) {
            boolean atom = isCapital(b) || b == '0' || b == '1';
            assertion("given a is " + (char) b + " then a is 1.", atom ? NONE : isBlank(b) || b == '!' || b == '(' ? 13 : 11);
        }
    }

    /** "then capital letters and digits". */
    private static void variableGoesOn() {
        for (int b = 0; b < 256; b++) {
            TrajectoryCheck x = Drive.with("input a;");
            boolean goesOn = isCapital(b) || isDigit(b);
            boolean joins = b == '&' || b == '|' || b == '^';
            int fault = goesOn || joins ? NONE : isBlank(b) || b == ',' ? 13 : 12;
            Drive.assertion(x, "given a is A" + (char) b + "B then a is 0.", fault);
            Drive.due("variables with byte " + b, x.count(4), goesOn ? 1 : joins ? 2 : 0);
        }
    }

    private static void variableAtMostFour() {
        assertion("given a is ABCD then a is A123 | Z999.", NONE);
        bad("given a is @ABCDE then a is 1.");
        bad("given a is @A1234 then a is 1.");
        bad("given a is ABCD | @ABCDE then a is 1.");
        bad("given a is 1 if @ABCDE then a is 1.");
        bad("given a is 1 then a is @" + Drive.repeat("A", "", 1900) + ".");
        Drive.faultyCircuit("input a @ABCDE");
    }

    private static void variablesDifferInAnyLetter() {
        TrajectoryCheck x = Drive.with("input a;", "given a is AAAA | AAAB | AABA | BAAA | AAA | AA | A | A0 | AAAA then a is 1.");
        Drive.due("variables", x.count(4), 8);
    }

    /** "NUMBER: digits": 0, a byte and 1 make a time, or not. */
    private static void numberGoesOn() {
        for (int b = 0; b < 256; b++) {
            int fault = isDigit(b) ? b <= '1' ? NONE : 16 : isBlank(b) || b == ',' ? 18 : 17;
            assertion("given a is 1 at 0" + (char) b + "1 then a is 1.", fault);
        }
    }

    private static void numberAtMostFour() {
        assertion("given a is 1 at 0011 then a is 1 at 0000 to 0011.", NONE);
        bad("given a is 1 at @00011 then a is 1.");
        bad("given a is 1 at @00000 then a is 1.");
        bad("given a is 1 at 0 to @00001 then a is 1.");
        bad("given a is 1 at @" + Drive.repeat("0", "", 1900) + " then a is 1.");
        // 4294967296 and what is built like it would wrap around to 0.
        bad("given a is 1 at @4294967296 then a is 1.");
        bad("given a is 1 at @18446744073709551616 then a is 1.");
        bad("given a is @00000 then a is 1.");
        Drive.faultyCircuit("wire a = @00001;");
        Drive.faultyCircuit("wire a = @4294967296;");
    }

    /** "each as long as can be". */
    private static void asLongAsCanBe() {
        Drive.faultyCircuit("@inputa;");
        Drive.faultyCircuit("@input1;");
        Drive.faultyCircuit("@input_ a;");
        Drive.faultyCircuit("wire a = 1@a;");
        Drive.faultyCircuit("wire a = @11;");
        Drive.faultyCircuit("wire a = @01;");
        Drive.faultyCircuit("input @1a;");
        Drive.faultyCircuit("input @_a;");
        Drive.faultyCircuit("input a@A;");
        Drive.faultyCircuit("input@A;");
        bad("given a @is1 then a is 1.");
        bad("given a is 1 then a @is1.");
        bad("given a is A @if1 then a is 1.");
        bad("given a is A @at1 then a is 1.");
        bad("given a is 1 at 0 @to1 then a is 1.");
        bad("given a is 1 @thena is 1.");
        bad("@givena is 1 then a is 1.");
        bad("given @ais 1 then a is 1.");
        bad("given a is A@b then a is 1.");
        assertion("given a is 1if 1at 0to 1then a is 1.", NONE);
        assertion("given a is Aif Bat 0to 1then a is C.", NONE);
    }

    /** "the signs = & | ^ ! ( ) ; , .": each stands where it is due, and no other byte does. */
    private static void signs() {
        for (int b = 0; b < 256; b++) {
            char c = (char) b;
            boolean joins = b == '&' || b == '|' || b == '^';
            circuit("wire a " + c + " 0;", b == '=' ? NONE : isBlank(b) ? 9 : 7);
            circuit("wire a = 0 " + c + " 1;", joins ? NONE : isBlank(b) || b == ';' ? 13 : 11);
            circuit("wire a = " + c + "(0);", dueBeforeBracket(b));
            circuit("wire a = (0" + c + ";", b == ')' ? NONE : joins || isBlank(b) ? 12 : isDigit(b) ? 10 : 11);
            circuit("input b" + c, b == ';' ? NONE : dueBehindInput(b));
            assertion("given a is 1 then a is 1" + c, b == '.' ? NONE : dueBehindClause(b));
        }
    }

    /** What stands before "(0);" at 9. */
    private static int dueBeforeBracket(int b) {
        if (b == '!' || isBlank(b)) {
            return NONE;
        }
        boolean isAtom = b == '0' || b == '1' || isSmall(b);
        return b == '(' ? 13 : isAtom ? 10 : 9;
    }

    /** What stands at 7, at the end, behind "input b". */
    private static int dueBehindInput(int b) {
        return isSmall(b) || isDigit(b) || b == '_' || isBlank(b) || b == ',' ? 8 : 7;
    }

    /** What stands at 24, at the end, behind "given a is 1 then a is 1"; a digit makes the last 1 no atom. */
    private static int dueBehindClause(int b) {
        if (isDigit(b)) {
            return 23;
        }
        return isBlank(b) || b == ',' || b == '&' || b == '|' || b == '^' ? 25 : 24;
    }
}
