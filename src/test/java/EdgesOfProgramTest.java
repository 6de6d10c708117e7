/** A test for each sentence on an edge of a program's text: PROGRAM, its grammar, its limits and FAULT. */
public final class EdgesOfProgramTest {
  private static final String RULE = "by all; on ";
  private static final String ACT = "by all; on any: a = ";
  private static final String ASK = "by all; on any where ";

  public static void main(String[] args) {
    tokensAsLongAsCanBe();
    blanks();
    words();
    numbers();
    signs();
    anyNumber();
    heading();
    ruleAndActions();
    sets();
    variables();
    sums();
    tests();
    atMostRulesAndActions();
    atMostAtoms();
    atMostDeep();
    whicheverComesFirst();
    tokenThatCanNotStand();
    itsOwnPlace();
    byteThatBeginsNone();
    theEnd();
    fullOfOne();
    bracketsTooDeep();
    Due.finish();
  }

  private static void good(String text) {
    Due.due("define " + text, Due.define(new EventLedger(), 0, text), EventLedger.NONE);
  }

  /** The fault is where the text has a bar. */
  private static void bad(String text) {
    int fault = text.indexOf('|');
    String whole = text.substring(0, fault) + text.substring(fault + 1);
    Due.due("define " + whole, Due.define(new EventLedger(), 0, whole), fault);
  }

  private static String nested(String open, int times, String inside, String shut) {
    return Due.repeat(open, times) + inside + Due.repeat(shut, times);
  }

  private static void tokensAsLongAsCanBe() {
    Due.sentence("PROGRAM", "a text of TOKENS, each as long as can be");
    good(ASK + "a<=1 and a>=1 and a!=1:forget;");
    good(ASK + "a<-1 and a>-1 and a=-1:forget;");
    bad(ASK + "a<=|=1: forget;");
    bad(ASK + "a<|>1: forget;");
    bad(ASK + "a>=|>1: forget;");
    bad(ASK + "a=|<1: forget;");
    bad(ASK + "a=|=1: forget;");
    bad(ACT + "|aa;");
    bad(ACT + "|keya;");
    bad(ACT + "|az;");
    bad(ACT + "|za;");
    bad("|byall; on any: forget;");
    bad("by all|1; on any: forget;");
    bad(RULE + "|12: forget;");
    good(RULE + "1 2: forget;");
    good("by all;on1from2where1=1:a=1;on3:forget;");
  }

  private static void blanks() {
    Due.sentence("PROGRAM", "with blanks (32) between where one likes");
    good("by all;on any:a=1;");
    good("   by   all   ;   on   any   :   a   =   - ( 1 )   ;   ");
    bad("|b y all; on any: a = 1;");
    bad(ASK + "a |! = 1: forget;");
    bad(ASK + "a < |= 1: forget;");
    bad(ASK + "a > |= 1: forget;");
    bad(ACT + "1 |2;");
    char[] noBlanks = {0, 9, 10, 11, 12, 13, 31, 127, 160, 255};
    for (char c : noBlanks) {
      bad("by all;|" + c + "on any: a = 1;");
      bad("|" + c + "by all; on any: a = 1;");
      bad("by all; on any: a = 1;|" + c);
    }
  }

  private static void words() {
    Due.sentence("PROGRAM", "words of small letters, at most 8");
    bad(ACT + "|abcdefgh;");
    bad(ACT + "|abcdefghi;");
    bad(ACT + "a + |streams;");
    bad(ACT + "a + |streamed;");
    bad(ACT + "a + |streaming;");
    bad(ACT + "a + |streamstreamstream;");
    bad(ACT + "a + |strea;");
    bad(ACT + "a + |ktream;");
    bad(RULE + "any: |forgetss;");
    bad(RULE + "any: |dorget;");
    bad(ACT + "a + |" + Due.repeat("z", 1000) + ";");
    bad("|By all; on any: a = 1;");
    bad("|BY all; on any: a = 1;");
    bad("by |alL; on any: a = 1;");
    bad(ACT + "|A;");
    bad(ACT + "a|_;");
    bad(ACT + "|\u00e9;");
    bad(ACT + "|`;");
    bad(ACT + "|{;");
  }

  private static void numbers() {
    Due.sentence("PROGRAM", "NUMBERS: digits, at most 2147483647");
    good(ACT + "0;");
    good(ACT + "2147483647;");
    good(ACT + "000000000002147483647;");
    good(ACT + Due.repeat("0", 1000) + ";");
    bad(ACT + "|2147483648;");
    bad(ACT + "-|2147483648;");
    bad(ACT + "|4294967295;");
    bad(ACT + "|4294967296;");
    bad(ACT + "|9223372036854775808;");
    bad(ACT + "|18446744073709551616;");
    bad(ACT + "|" + Due.repeat("9", 1000) + ";");
    bad(ACT + "|0002147483648;");
    bad(ACT + "1|.5;");
    bad(ACT + "0|x1;");
    EventLedger x = new EventLedger();
    Due.event(x, 0, 0, 0, 0);
    Due.program(x, 0, ACT + "2147483647, b = 0, c = 0000000019, d = -2147483647;");
    Due.due("run", x.run(0, 1), 1);
    long[] want = {2147483647L, 0, 19, -2147483647L};
    for (int v = 0; v < 4; v++) Due.due("number", x.cell(0, 0, v), want[v]);
  }

  private static void signs() {
    Due.sentence("PROGRAM", "the signs , ; : ( ) + - * / % = != < <= > >=");
    good(ACT + "(1 + 2 - 3 * 4 / 5 % 6), b = 1;");
    String[] comparing = {"=", "!=", "<", "<=", ">", ">="};
    for (String sign : comparing) good(ASK + "a" + sign + "1: forget;");
    String none = "!\"#$&'.?@[\\]^_`{|}~";
    for (int i = 0; i < none.length(); i++) {
      String text = ACT + "1 " + none.charAt(i) + " 1;";
      Due.due("define " + text, Due.define(new EventLedger(), 0, text), ACT.length() + 2);
    }
    bad(ACT + "1|!;");
    bad(ASK + "1 |!");
  }

  private static void anyNumber() {
    Due.sentence("PROGRAM", "{ } any number");
    EventLedger x = new EventLedger();
    Due.event(x, 0, 0, 0, 0);
    String[] long1200 = {Due.repeat("fresh and ", 115) + "fresh", Due.repeat("not fresh or ", 85) + "fresh"};
    for (String test : long1200) {
      Due.program(x, 0, ASK + test + ": a = 0" + Due.repeat(" - 1", 2) + ";");
      Due.due("run", x.run(0, 1), 1);
      Due.due("it is true", x.cell(0, 0, 0), -2);
    }
    Due.program(x, 0, ACT + "1" + Due.repeat(" * 1 + 1", 57) + " - 60 / 2 / 3 % 7;");
    Due.due("run", x.run(0, 1), 1);
    Due.due("the sum", x.cell(0, 0, 0), 58 - 60 / 2 / 3 % 7);
  }

  private static void heading() {
    Due.sentence("PROGRAM", "by PART ; RULE { RULE }; PART: key, stream, kind or all.");
    String[] parts = {"key", "stream", "kind", "all"};
    for (String part : parts) good("by " + part + "; on any: forget;");
    String[] others = {"value", "place", "a", "any", "fresh", "1", ";", "on", "by", "keys", "ke", "streams",
        "abcdefgh", "abcdefghi"};
    for (String other : others) bad("by |" + other + "; on any: forget;");
    bad("|on any: forget;");
    bad("|key; on any: forget;");
    bad("by all |on any: forget;");
    bad("by all|: on any: forget;");
    bad("by all; |; on any: forget;");
    bad("by all;|");
    bad("by all; |a = 1;");
    good("by all; on any: forget; on any: forget;");
    bad("by all; on any: forget; |by all; on any: forget;");
    bad("by all; on any: forget; |forget;");
    bad("by all; on any: forget;|;");
  }

  private static void ruleAndActions() {
    Due.sentence("PROGRAM", "RULE: on KINDS [from STREAMS] [where TEST] : ACTION { , ACTION } ;.");
    good(RULE + "1: forget;");
    good(RULE + "1 from 2: forget;");
    good(RULE + "1 where fresh: forget;");
    good(RULE + "1 from 2 where fresh: forget, a = 1, forget;");
    bad(RULE + "1 where fresh |from 2: forget;");
    bad(RULE + "1 from 2 |from 2: forget;");
    bad(RULE + "1 where fresh |where fresh: forget;");
    bad(RULE + "|from 2: forget;");
    bad(RULE + "|where fresh: forget;");
    bad(RULE + "1 from |where fresh: forget;");
    bad(RULE + "1 where |: forget;");
    bad(RULE + "1 |forget;");
    bad(RULE + "1: |;");
    bad(RULE + "1: |, forget;");
    bad(RULE + "1: forget, |;");
    bad(RULE + "1: forget |forget;");
    bad(RULE + "1: forget|");

    Due.sentence("PROGRAM", "ACTION: VARIABLE = SUM, or forget.");
    bad(RULE + "1: |1 = 1;");
    bad(RULE + "1: |key = 1;");
    bad(RULE + "1: |fresh;");
    bad(RULE + "1: a |1;");
    bad(RULE + "1: a |!= 1;");
    bad(RULE + "1: a |<= 1;");
    bad(RULE + "1: a = |;");
    bad(RULE + "1: a = 1 |= 1;");
    bad(RULE + "1: forget |= 1;");
    bad(RULE + "1: a = |forget;");
  }

  private static void sets() {
    Due.sentence("PROGRAM", "KINDS, STREAMS: any, or NUMBER { NUMBER }, 0 to 7, rising, none twice.");
    String[] before = {RULE, RULE + "any from "};
    for (String head : before) {
      good(head + "any: forget;");
      good(head + "0: forget;");
      good(head + "7: forget;");
      good(head + "0 1 2 3 4 5 6 7: forget;");
      good(head + "00 007: forget;");
      bad(head + "|: forget;");
      bad(head + "|8: forget;");
      bad(head + "|-1: forget;");
      bad(head + "|2147483647: forget;");
      bad(head + "|4294967296: forget;");
      bad(head + "0 7 |8: forget;");
      bad(head + "3 |3: forget;");
      bad(head + "0 |0: forget;");
      bad(head + "3 |2: forget;");
      bad(head + "1 7 |0: forget;");
      bad(head + "0 1 2 3 4 5 6 7 |7: forget;");
      bad(head + "any |0: forget;");
      bad(head + "0 |any: forget;");
      bad(head + "any |any: forget;");
      bad(head + "0|, 1: forget;");
      bad(head + "|a: forget;");
    }
  }

  private static void variables() {
    Due.sentence("PROGRAM", "VARIABLES: the words a to h.");
    for (char v = 'a'; v <= 'h'; v++) good(RULE + "any: " + v + " = " + v + ";");
    for (char v = 'i'; v <= 'z'; v++) {
      bad(RULE + "any: |" + v + " = 1;");
      bad(ACT + "|" + v + ";");
    }
    bad(RULE + "any: |ab = 1;");
    EventLedger x = new EventLedger();
    Due.event(x, 0, 0, 0, 0);
    Due.program(x, 0, RULE + "any: a=1, b=2, c=3, d=4, e=5, f=6, g=7, h=8;");
    Due.program(x, 1, RULE + "any: h=1, a=h+1, b=a+1, c=b+1, d=c+1, e=d+1, f=e+1, g=f+1;");
    Due.due("run", x.run(0, 1), 1);
    Due.due("run", x.run(1, 1), 1);
    for (int v = 0; v < 8; v++) Due.due("set", x.cell(0, 0, v), v + 1);
    for (int v = 0; v < 8; v++) Due.due("read", x.cell(1, 0, v), v == 7 ? 1 : v + 2);
  }

  private static void sums() {
    Due.sentence("PROGRAM", "SUM: TERM { + TERM, - TERM }; TERM: ATOM { \"*\" ATOM, / ATOM, % ATOM }");
    good(ACT + "1 + 2 - 3;");
    good(ACT + "1 * 2 / 3 % 4;");
    good(ACT + "1 - -1 * -1 / -1 % -1;");
    String[] joins = {"+", "*", "/", "%"};
    for (String sign : joins) {
      bad(ACT + "|" + sign + " 1;");
      bad(ACT + "1 " + sign + " |;");
      bad(ACT + "1 " + sign + " |* 1;");
    }
    bad(ACT + "1 - |;");
    bad(ACT + "1 - |+ 1;");

    Due.sentence("PROGRAM", "ATOM: NUMBER, VARIABLE, key, value, kind, stream, place, - ATOM, ( SUM ), least ( SUM , SUM ), most ( SUM , SUM ).");
    String[] atoms = {"1", "a", "key", "value", "kind", "stream", "place", "-1", "(1)", "least(1, 2)", "most(1, 2)", "- -(-a)"};
    for (String atom : atoms) good(ACT + atom + ";");
    String[] none = {"all", "any", "by", "on", "from", "where", "forget", "fresh", "not", "and", "or", ")", ",", ":", ";", "=", "<"};
    for (String other : none) bad(ACT + "|" + other + ";");
    bad(ACT + "(|);");
    bad(ACT + "(1|;");
    bad(ACT + "(1|, 2);");
    bad(ACT + "1|);");
    bad(ACT + "-|;");
    String[] pairs = {"least", "most"};
    for (String pair : pairs) {
      bad(ACT + pair + "|;");
      bad(ACT + pair + " |1, 2);");
      bad(ACT + pair + "(|);");
      bad(ACT + pair + "(1|);");
      bad(ACT + pair + "(1, |);");
      bad(ACT + pair + "(1, 2|, 3);");
      bad(ACT + pair + "(1 |2);");
      bad(ACT + pair + "(1, 2|;");
    }
  }

  private static void tests() {
    Due.sentence("PROGRAM", "TEST: BOTH { or BOTH }; BOTH: NOT { and NOT }; NOT: not NOT, \"(\" TEST \")\"");
    good(ASK + "fresh or fresh and fresh or not fresh: forget;");
    good(ASK + "((fresh) or not (fresh and fresh)): forget;");
    bad(ASK + "|or fresh: forget;");
    bad(ASK + "|and fresh: forget;");
    bad(ASK + "fresh or |: forget;");
    bad(ASK + "fresh and |: forget;");
    bad(ASK + "fresh and |or fresh: forget;");
    bad(ASK + "not |: forget;");
    bad(ASK + "not |and fresh: forget;");
    bad(ASK + "(|): forget;");
    bad(ASK + "(fresh|: forget;");
    bad(ASK + "fresh|): forget;");
    bad(ASK + "fresh |fresh: forget;");
    bad(ASK + "fresh |not fresh: forget;");

    Due.sentence("PROGRAM", "fresh, or SUM SIGN SUM, where the first does not begin with (");
    good(ASK + "1 = (a): forget;");
    good(ASK + "-(a) = (1) + 1: forget;");
    good(ASK + "1 + (a) = 1: forget;");
    good(ASK + "least((a), 1) = 1: forget;");
    good(ASK + "(1 + (a) = (1)): forget;");
    bad(ASK + "(a|) = 1: forget;");
    bad(ASK + "(1 + 2|) * 3 = 1: forget;");
    bad(ASK + "not (a|) = 1: forget;");
    bad(ASK + "((a|)) = 1: forget;");
    bad(ASK + "(a = 1) |= 1: forget;");
    bad(ASK + "(a = 1) |+ 1 = 2: forget;");
    bad(ASK + "fresh |= 1: forget;");
    bad(ASK + "1 = |fresh: forget;");

    Due.sentence("PROGRAM", "SIGN: = != < <= > >=");
    bad(ASK + "a|: forget;");
    bad(ASK + "a |1: forget;");
    bad(ASK + "a = |: forget;");
    bad(ASK + "a = 1 |= 1: forget;");
    bad(ASK + "a = 1 |< 1: forget;");
    bad(ASK + "|= 1: forget;");
    bad(ASK + "a |, 1: forget;");
    String[] signs = {"=", "!=", "<", "<=", ">", ">="};
    for (String sign : signs) {
      compare("key", sign, "value", sign.equals("!=") || sign.startsWith("<"));
      compare("value", sign, "key", sign.equals("!=") || sign.startsWith(">"));
      compare("key", sign, "key", sign.endsWith("=") && !sign.equals("!="));
    }
  }

  /** For an event with the least key and the greatest value. */
  private static void compare(String left, String sign, String right, boolean want) {
    EventLedger x = new EventLedger();
    Due.event(x, 0, 0, Integer.MIN_VALUE, Integer.MAX_VALUE);
    Due.program(x, 0, ASK + left + sign + right + ": a = 1; on any where not " + left + sign + right + ": a = 0;");
    Due.due("run", x.run(0, 1), 1);
    Due.due(left + sign + right, x.cell(0, 0, 0), want ? 1 : 0);
  }

  private static void atMostRulesAndActions() {
    Due.sentence("PROGRAM", "At most 8 rules");
    for (int n = 1; n <= 8; n++) good("by all;" + Due.repeat(" on any: forget;", n));
    String eight = "by all;" + Due.repeat(" on any: forget;", 8);
    good(eight + "   ");
    bad(eight + " |on any: forget;");
    bad(eight + " |on any: forget; on any: forget;");
    bad(eight + "|on");
    bad(eight + "  |;");
    bad(eight + "  |$");

    Due.sentence("PROGRAM", "8 actions in each");
    for (int n = 0; n < 8; n++) good(RULE + "any: " + Due.repeat("a=1,", n) + "forget;");
    String seven = Due.repeat("forget, ", 7);
    good("by all; " + Due.repeat("on 1: " + seven + "b = 2; ", 8));
    bad(RULE + "any: " + seven + "forget, |forget;");
    bad(RULE + "any: " + seven + "a = 1, |b = 1;");
    bad(RULE + "any: " + seven + "a = 1, |b = 1, c = 1;");
    bad(RULE + "any: forget; on any: " + seven + "a = 1, |b = 1;");
    bad(RULE + "any: " + seven + "forget, |");
  }

  private static void atMostAtoms() {
    Due.sentence("PROGRAM", "120 ATOMS that are no brackets, least, most and -");
    String[] atoms = {"1", "a", "key", "value", "kind", "stream", "place"};
    for (String atom : atoms) {
      String most = ACT + atom + Due.repeat("+" + atom, 119);
      good(most + ";");
      bad(most + "+|" + atom + ";");
      bad(most + "+(|" + atom + ");");
      bad(most + "+-|" + atom + ";");
      bad(most + "+least(|" + atom + ", 1);");
      bad(most + "+most(-(|" + atom + "), 1);");
    }
    String most = ACT + "1" + Due.repeat("*1", 119);
    good(ACT + "-(1)" + Due.repeat("*-(1)", 119) + ";");
    good(ACT + "least(1,2)" + Due.repeat("+most(1,2)", 59) + ";");
    bad(ACT + "least(1,2)" + Due.repeat("+most(1,2)", 59) + "-|1;");
    good(most + ", forget; on 1 2 3 from 4 5 6 where not fresh: forget;");
    bad(most + ", b = |1;");
    bad(most + "; on any: b = |1;");
    bad(most + "; on any where |a = 1: forget;");
    bad(most + "; on any where not (|1 = 1): forget;");
    bad(ACT + "1" + Due.repeat("+1", 118) + "; on any where a = |1: forget;");
    good(ACT + "1" + Due.repeat("+1", 117) + "; on any where a = 1: forget;");
    EventLedger x = new EventLedger();
    for (int i = 0; i < 12; i++) Due.due("for each program anew", Due.define(x, i % 6, most + ";"), EventLedger.NONE);
  }

  private static void atMostDeep() {
    Due.sentence("PROGRAM", "brackets (of least and most, too), not, and a - that is no TERM's at most 8 deep");
    good(ACT + nested("(", 8, "1", ")") + ";");
    good(ACT + nested("least(1, ", 8, "1", ")") + ";");
    good(ACT + nested("most(", 8, "1", ", 1)") + ";");
    good(ACT + Due.repeat("-", 8) + "1;");
    good(ASK + Due.repeat("not ", 8) + "fresh: forget;");
    good(ASK + nested("(", 8, "fresh", ")") + ": forget;");
    bad(ACT + Due.repeat("-", 8) + "|-1;");
    bad(ASK + Due.repeat("not ", 8) + "|not fresh: forget;");
    good(ACT + nested("-(", 4, "1", ")") + ";");
    bad(ACT + nested("-(", 4, "|-1", ")") + ";");
    good(ASK + nested("not (", 4, "1 = 1", ")") + ": forget;");
    bad(ASK + nested("not (", 4, "|not fresh", ")") + ": forget;");
    bad(ASK + nested("not (", 4, "|-1 = 1", ")") + ": forget;");
    bad(ASK + nested("not (", 4, "1 = |-1", ")") + ": forget;");
    good(ASK + "not (not (-(least(-1, 1)) = 1)): forget;");
    bad(ASK + "not (not (-(least(-|-1, 1)) = 1)): forget;");
    good(ACT + nested("(", 8, "1 - 1 - 1 - 1", ")") + ";");
    good(ACT + nested("(", 8, "1", ")") + " - " + nested("(", 8, "1", ")") + ", b = " + nested("(", 8, "1", ")") + ";");
    good(ACT + "-1" + Due.repeat(" - -1", 20) + ";");
    good(ASK + nested("(", 8, "fresh", ")") + " and " + Due.repeat("not ", 8) + "fresh or -1 = -1: forget;");
    good(ASK + "not fresh" + Due.repeat(" and not fresh", 20) + ": forget;");
  }

  private static void whicheverComesFirst() {
    Due.sentence("FAULT", "FAULT, whichever comes first in the text");
    bad(ACT + "|) $;");
    bad(ACT + "1 |2147483648 );");
    bad(ACT + "|$ );");
    bad("by all |on any: a = 99999999999;");
    bad("by all; on |8 8 $");
    bad(RULE + "any: |i = 2147483648");
    bad(ACT + "|2147483648");
    bad(ACT + "(1 |$");
    bad(ACT + nested("(", 8, "|(1 $", "") + ";");
    bad(ACT + nested("(", 8, "|$ (1", "") + ";");
  }

  private static void tokenThatCanNotStand() {
    Due.sentence("FAULT", "the place of the first token that can not stand there");
    bad("|x");
    bad("|1");
    bad("|;");
    bad("   |x by all;");
    bad("by |x");
    bad("by all |x");
    bad("by all; |x");
    bad("by all; on |x");
    bad("by all; on any |x");
    bad("by all; on any: |x");
    bad("by all; on any: a |x");
    bad("by all; on any: a = |x");
    bad("by all; on any: a = 1 |x");
    bad("by all; on any: a = 1; |x");
  }

  private static void itsOwnPlace() {
    Due.sentence("FAULT", "(for one that is too much, too great, not rising: its own)");
    bad("by all;" + Due.repeat("on any:forget;", 8) + "   |on any: forget;");
    bad(RULE + "any: " + Due.repeat("forget,", 8) + "   |forget;");
    bad(ACT + "1" + Due.repeat("+1", 119) + "+   |1;");
    bad(RULE + "0   |8: forget;");
    bad(RULE + "3   |2: forget;");
    bad(RULE + "3   |3: forget;");
    bad(ACT + Due.repeat("-", 8) + "   |-1;");
    bad(ASK + Due.repeat("not ", 8) + "   |not fresh: forget;");
  }

  private static void byteThatBeginsNone() {
    Due.sentence("FAULT", "or of the first byte that begins none (of what is too long or too great its first)");
    String begins = "abcdefghijklmnopqrstuvwxyz0123456789,;:()+-*/%=<> ";
    for (int b = 0; b < 256; b++) {
      if (begins.indexOf(b) >= 0) continue;
      String text = "by all;  " + (char) b;
      Due.due("byte " + b, Due.define(new EventLedger(), 0, text), 9);
    }
    bad("by all; on any: |forgetforget;");
    bad("by all; on any: a = 1 + |99999999999999999999");
    bad("by all; on |99999999999: forget;");
    bad("by all; |" + Due.repeat("on", 500));
  }

  private static void theEnd() {
    Due.sentence("FAULT", "or of the end (how many bytes the text has) if something is missing");
    String[] begun = {"", "by", "by all", "by all;", "by all; on", "by all; on 1", "by all; on 1 from", "by all; on 1 from any",
        "by all; on 1 where", "by all; on 1 where not", "by all; on 1 where (", "by all; on 1 where (fresh", "by all; on 1 where a",
        "by all; on 1 where a <", "by all; on 1 where a < 1", "by all; on 1 where fresh or", "by all; on 1 where fresh and",
        "by all; on 1:", "by all; on 1: a", "by all; on 1: a =", "by all; on 1: a = -", "by all; on 1: a = (", "by all; on 1: a = (1",
        "by all; on 1: a = least", "by all; on 1: a = least(", "by all; on 1: a = least(1", "by all; on 1: a = least(1,",
        "by all; on 1: a = least(1, 2", "by all; on 1: a = 1", "by all; on 1: a = 1 +", "by all; on 1: a = 1 *", "by all; on 1: a = 1,",
        "by all; on 1: forget"};
    for (String text : begun) {
      Due.due("define " + text, Due.define(new EventLedger(), 0, text), text.length());
      Due.due("with blanks " + text, Due.define(new EventLedger(), 0, text + "    "), text.length() + 4);
    }
    bad(Due.repeat(" ", 1200) + "|");
  }

  private static void fullOfOne() {
    Due.sentence("FAULT", "the place of the first token that can not stand there");
    String[] pieces = {"(", ")", ";", "-", "=", "1", "a", "<=", "on", "$", "not ", "least("};
    for (String piece : pieces) {
      bad("|" + Due.repeat(piece, 1200 / piece.length()));
      String rest = Due.repeat(piece, (1200 - ACT.length()) / piece.length());
      int fault = piece.equals("(") || piece.equals("-") ? 8 : piece.equals("least(") ? 8 * 6 + 5 : 0;
      bad(ACT + rest.substring(0, fault) + "|" + rest.substring(fault));
    }
  }

  private static void bracketsTooDeep() {
    Due.sentence("FAULT", "of brackets too deep their ( (of least and most, too).");
    bad(ACT + nested("(", 8, "|(1)", ")") + ";");
    bad(ACT + nested("(", 8, "|(", ")") + ";");
    bad(ACT + nested("(", 8, "least |(1, 2)", ")") + ";");
    bad(ACT + nested("(", 8, "most   |(1, 2)", ")") + ";");
    bad(ACT + nested("least(1, ", 8, "least|(1, 2)", ")") + ";");
    bad(ACT + nested("most(", 8, "|(1)", ", 1)") + ";");
    bad(ACT + Due.repeat("-", 8) + "|(1);");
    bad(ACT + Due.repeat("-", 8) + "least|(1, 2);");
    bad(ASK + nested("(", 8, "|(fresh)", ")") + ": forget;");
    bad(ASK + Due.repeat("not ", 8) + "|(fresh): forget;");
    bad(ASK + nested("(", 8, "1 = |(1)", ")") + ": forget;");
    bad(ASK + nested("(", 8, "most|(1, 2) = 1", ")") + ": forget;");
    bad(ACT + nested("(", 8, "least |1, 2", ")") + ";");
  }
}
