/** Promise 10: define; the grammar and its faults. */
public final class DefineTest {
  private static final String HEAD = "by all; ";
  private static final String ACT = HEAD + "on any: a = ";
  private static final String ASK = HEAD + "on any where ";

  public static void main(String[] args) {
    wellFormed();
    theEnd();
    tokens();
    headings();
    sets();
    actions();
    sums();
    tests();
    rulesAndActionsLimits();
    atomsLimit();
    depthLimit();
    foldsAndTape();
    Due.finish();
  }

  private static void good(String text) {
    Due.due("define " + text, Due.define(new EventLedger(), 0, text), EventLedger.NONE);
  }

  /** The fault is where the text has a bar. */
  private static void bad(String text) {
    int fault = text.indexOf('|');
    String whole = text.substring(0, fault) + text.substring(fault + 1);
    Due.due("define " + whole, Due.define(new EventLedger(), 0, whole), fault);
  }

  private static void wellFormed() {
    good("by key; on any: forget;");
    good("by stream; on 0 1 2 3 4 5 6 7 from 0 7: a = 1;");
    good("by kind;on 3 from any where fresh:h=h;");
    good("  by  all  ;  on  any  :  a  =  1  ;  ");
    good("by all;on1from2where a=1:a=1;on any:a=1;");
    good(ASK + "a = 1 and (b = 2 or not fresh): a = key + value - kind * stream / place % 7, forget;");
  }

  /** Every beginning of a program that is none itself lacks something at its end. */
  private static void theEnd() {
    String text = "by all; on 1 2 from 3 where not (a <= 1 or fresh) and -b != least(1, (c)): a = 1, forget;";
    for (int n = 0; n < text.length(); n++) {
      String part = text.substring(0, n);
      boolean midWord = n > 0 && Character.isLetter(text.charAt(n)) && Character.isLetter(text.charAt(n - 1));
      boolean midSign = n > 0 && text.charAt(n - 1) == '!';
      if (midWord || midSign) continue;
      Due.due("define " + part, Due.define(new EventLedger(), 0, part), n);
      Due.due("with blanks " + part, Due.define(new EventLedger(), 0, part + "   "), n + 3);
    }
    good(text);
    bad("|");
    bad("   |");
    bad("by all|");
  }

  private static void tokens() {
    bad("|By all; on any: a = 1;");
    bad("by all;|\non any: a = 1;");
    bad("by all;|\ton any: a = 1;");
    bad(HEAD + "on any: a = |\u0000;");
    bad(HEAD + "on any: a = |\u00e1;");
    bad(ACT + "1|! ;");
    bad(ASK + "a |! = 1: forget;");
    bad(ASK + "a < |= 1: forget;");
    bad(ASK + "a =|< 1: forget;");
    bad(ASK + "a =|= 1: forget;");
    bad(ASK + "a <=|= 1: forget;");
    bad(ASK + "a <|> 1: forget;");
    good(ASK + "a!=1:forget;");
    good(ASK + "a<=1:forget;");
    good(ASK + "a<-1:forget;");
    good(ACT + "2147483647;");
    good(ACT + "00000000000000000000000000000000000002147483647;");
    bad(ACT + "|2147483648;");
    bad(ACT + "|4294967297;");
    bad(ACT + "|18446744073709551617;");
    bad(ACT + "|99999999999999999999999999999999999999;");
    bad(ACT + "-|2147483648;");
    bad(ACT + "|abcdefgh;");
    bad(ACT + "|abcdefghi;");
    bad(ACT + "1|a;");
    bad(ACT + "a|1;");
    bad(ACT + "|ab;");
    bad(ACT + "1 |#");
    bad(ACT + "|) # 99999999999;");
    bad("|byall; on any: a = 1;");
    bad("by all; |onany: a = 1;");
    bad("by all; |o n any: a = 1;");
    bad("by all; on |an y: a = 1;");
    bad("by all; on any: |forge = 1;");
    bad("by all; on any: |forgets;");
  }

  private static void headings() {
    bad("|all; on any: a = 1;");
    bad("|on any: a = 1;");
    bad("by |on any: a = 1;");
    bad("by |streams; on any: a = 1;");
    bad("by |bey; on any: a = 1;");
    bad("by key; |in any: a = 1;");
    bad("by |value; on any: a = 1;");
    bad("by |place; on any: a = 1;");
    bad("by |a; on any: a = 1;");
    bad("by |any; on any: a = 1;");
    bad("by |; on any: a = 1;");
    bad("by |1; on any: a = 1;");
    bad("by key|: on any: a = 1;");
    bad("by key |stream; on any: a = 1;");
    bad("by key;|; on any: a = 1;");
    bad("by key; |by key; on any: a = 1;");
    bad("by key; on any: a = 1; |a = 1;");
    bad("by key; on any: a = 1;|;");
    bad("by key; on any: a = 1; |by key;");
  }

  private static void sets() {
    good(HEAD + "on 0: forget;");
    good(HEAD + "on 7: forget;");
    good(HEAD + "on 00 0007: forget;");
    good(HEAD + "on 0 1 2 3 4 5 6 7 from 0 1 2 3 4 5 6 7: forget;");
    bad(HEAD + "on |: forget;");
    bad(HEAD + "on |8: forget;");
    bad(HEAD + "on 1 |8: forget;");
    bad(HEAD + "on 1 |1: forget;");
    bad(HEAD + "on 2 |1: forget;");
    bad(HEAD + "on 0 1 2 3 4 5 6 7 |7: forget;");
    bad(HEAD + "on 0 1 2 3 4 5 6 7 |8: forget;");
    bad(HEAD + "on |12: forget;");
    bad(HEAD + "on 1|, 2: forget;");
    bad(HEAD + "on |-1: forget;");
    bad(HEAD + "on any |1: forget;");
    bad(HEAD + "on 1 |any: forget;");
    bad(HEAD + "on any |any: forget;");
    bad(HEAD + "on |2147483647: forget;");
    bad(HEAD + "on |4294967296: forget;");
    bad(HEAD + "on |from 1: forget;");
    bad(HEAD + "on any from |: forget;");
    bad(HEAD + "on any from |8: forget;");
    bad(HEAD + "on any from 5 |5: forget;");
    bad(HEAD + "on any from 5 |4: forget;");
    bad(HEAD + "on any from any |from any: forget;");
    bad(HEAD + "on any where fresh |from any: forget;");
    bad(HEAD + "on any where fresh |where fresh: forget;");
  }

  private static void actions() {
    good(HEAD + "on any: a = 1, forget, h = 2, forget;");
    bad(HEAD + "on any: |;");
    bad(HEAD + "on any: |, a = 1;");
    bad(HEAD + "on any: a = 1, |;");
    bad(HEAD + "on any: |i = 1;");
    bad(HEAD + "on any: |key = 1;");
    bad(HEAD + "on any: |1 = 1;");
    bad(HEAD + "on any: a |; b = 1;");
    bad(HEAD + "on any: a |!= 1;");
    bad(HEAD + "on any: forget |= 1;");
    bad(HEAD + "on any: forget |forget;");
    bad(HEAD + "on any: a = 1 |: b = 2;");
    bad(HEAD + "on any |a = 1;");
    bad(HEAD + "on any|; ");
  }

  private static void sums() {
    good(ACT + "1 - - 1;");
    good(ACT + "1 - -a * -b;");
    good(ACT + "least(1, 2) + most(a, -b) * (3);");
    good(ACT + "least(least(1, 2), most((1), 3 - 4));");
    bad(ACT + "|;");
    bad(ACT + "|+ 1;");
    bad(ACT + "1 + |;");
    bad(ACT + "1 + |* 2;");
    bad(ACT + "1 * |;");
    bad(ACT + "-|;");
    bad(ACT + "1 |2;");
    bad(ACT + "(|);");
    bad(ACT + "(1|;");
    bad(ACT + "(1|, 2);");
    bad(ACT + "1|);");
    bad(ACT + "1 |= 1;");
    bad(ACT + "1 |(2);");
    bad(ACT + "least |1, 2);");
    bad(ACT + "least(1|);");
    bad(ACT + "least(1, 2|, 3);");
    bad(ACT + "most(|, 2);");
    bad(ACT + "most(1, |);");
    bad(ACT + "most(1, 2|;");
    bad(ACT + "most|;");
    bad(ACT + "|fresh;");
    bad(ACT + "|not 1;");
    bad(ACT + "|forget;");
    bad(ACT + "|any;");
    bad(ACT + "|all;");
    bad(ACT + "|by;");
    bad(ACT + "|i;");
    bad(ACT + "|z;");
  }

  private static void tests() {
    String[] signs = {"=", "!=", "<", "<=", ">", ">="};
    for (String sign : signs) good(ASK + "a " + sign + " b: forget;");
    good(ASK + "fresh and fresh or fresh and not fresh: forget;");
    good(ASK + "((fresh) or (a = 1)): forget;");
    good(ASK + "1 = (a): forget;");
    good(ASK + "-(a) = (a): forget;");
    good(ASK + "least((a), 1) = 1: forget;");
    good(ASK + "not -a = 1: forget;");
    good(ASK + "1 * (a) = 1: forget;");
    bad(ASK + "|: forget;");
    bad(ASK + "a|: forget;");
    bad(ASK + "a + 1|: forget;");
    bad(ASK + "a = |: forget;");
    bad(ASK + "a = 1 |= 1: forget;");
    bad(ASK + "(a|) = 1: forget;");
    bad(ASK + "(a + 1|) = 1: forget;");
    bad(ASK + "(a = 1) |= 1: forget;");
    bad(ASK + "(a = 1) |+ 1 = 1: forget;");
    bad(ASK + "(a = 1|: forget;");
    bad(ASK + "a = 1|): forget;");
    bad(ASK + "(|): forget;");
    bad(ASK + "fresh |= 1: forget;");
    bad(ASK + "fresh |fresh: forget;");
    bad(ASK + "1 = |fresh: forget;");
    bad(ASK + "1 = |not fresh: forget;");
    bad(ASK + "not |: forget;");
    bad(ASK + "not |and fresh: forget;");
    bad(ASK + "fresh and |: forget;");
    bad(ASK + "fresh or |: forget;");
    bad(ASK + "fresh or |or fresh: forget;");
    bad(ASK + "fresh |not fresh: forget;");
    bad(ASK + "a = 1 |, b = 1: forget;");
    bad(ASK + "fresh|; forget;");
    bad(ASK + "|any: forget;");
  }

  private static void rulesAndActionsLimits() {
    good(HEAD + Due.repeat("on any: forget;", 8));
    bad(HEAD + Due.repeat("on any: forget;", 8) + " |on any: forget;");
    bad(HEAD + Due.repeat("on any: forget;", 8) + " |on");
    bad(HEAD + Due.repeat("on any: forget;", 8) + "  |$");
    String seven = Due.repeat("forget, ", 7);
    good(HEAD + Due.repeat("on any: " + seven + "a = 1;", 8));
    bad(HEAD + "on any: " + seven + "a = 1, |b = 2;");
    bad(HEAD + "on any: " + seven + "forget, |forget;");
    bad(HEAD + "on any: " + seven + "forget, |;");
    bad(HEAD + "on any: " + seven + "forget, |");
  }

  /** Atoms are counted in the whole program; numbers of sets, fresh, and variables that are set are none. */
  private static void atomsLimit() {
    good(ACT + "1" + Due.repeat("+1", 119) + ";");
    bad(ACT + "1" + Due.repeat("+1", 119) + "+|1;");
    bad(ACT + "1" + Due.repeat("+a", 119) + "+(|b);");
    bad(ACT + "1" + Due.repeat("+key", 119) + "+-|value;");
    bad(ACT + "1" + Due.repeat("+(-place)", 119) + "+least(|kind, 1);");
    bad(ACT + "1" + Due.repeat("*stream", 119) + "%|stream;");
    good(ACT + "1" + Due.repeat("+1", 99) + "; on 1 2 from 3 where fresh and a = 1: b = 1" + Due.repeat("+1", 16) + ", c = c;");
    bad(ACT + "1" + Due.repeat("+1", 99) + "; on 1 2 from 3 where fresh and a = 1: b = 1" + Due.repeat("+1", 17) + ", c = |c;");
    bad(ACT + "1" + Due.repeat("+1", 118) + "; on any where a = |1: forget;");
  }

  private static void depthLimit() {
    good(ACT + Due.repeat("(", 8) + "1" + Due.repeat(")", 8) + ";");
    bad(ACT + Due.repeat("(", 8) + "|(1" + Due.repeat(")", 9) + ";");
    good(ACT + Due.repeat("-", 8) + "1;");
    bad(ACT + Due.repeat("-", 8) + "|-1;");
    good(ACT + Due.repeat("-(", 4) + "1" + Due.repeat(")", 4) + " + -1;");
    bad(ACT + Due.repeat("-(", 4) + "|-1" + Due.repeat(")", 4) + ";");
    bad(ACT + Due.repeat("-(", 4) + "|(1)" + Due.repeat(")", 4) + ";");
    good(ACT + Due.repeat("most(1, ", 8) + "2" + Due.repeat(")", 8) + ";");
    bad(ACT + Due.repeat("most(1, ", 8) + "most |(1, 2)" + Due.repeat(")", 8) + ";");
    bad(ACT + Due.repeat("(", 8) + "least|(1, 2)" + Due.repeat(")", 8) + ";");
    bad(ACT + Due.repeat("(", 8) + "least |1" + Due.repeat(")", 8) + ";");
    good(ACT + Due.repeat("(", 8) + "1 - 1 - 1" + Due.repeat(")", 8) + ";");
    good(ACT + "1" + Due.repeat("-1", 50) + " - (1) - (1) - (1) - (1) - (1) - (1) - (1) - (1) - (1);");
    good(ASK + Due.repeat("not ", 8) + "fresh: forget;");
    bad(ASK + Due.repeat("not ", 8) + "|not fresh: forget;");
    good(ASK + Due.repeat("(", 8) + "fresh" + Due.repeat(")", 8) + ": forget;");
    bad(ASK + Due.repeat("(", 8) + "|(fresh" + Due.repeat(")", 9) + ": forget;");
    good(ASK + Due.repeat("not (", 3) + "-(1) = least(-1, 2)" + Due.repeat(")", 3) + ": forget;");
    good(ASK + Due.repeat("not (", 4) + "a = b" + Due.repeat(")", 4) + ": forget;");
    bad(ASK + Due.repeat("not (", 4) + "|-a = b" + Due.repeat(")", 4) + ": forget;");
    bad(ASK + Due.repeat("not (", 4) + "a = |-b" + Due.repeat(")", 4) + ": forget;");
    bad(ASK + Due.repeat("not (", 4) + "a = |(b)" + Due.repeat(")", 4) + ": forget;");
    bad(ASK + Due.repeat("not (", 4) + "a = most|(b, 1)" + Due.repeat(")", 4) + ": forget;");
    bad(ASK + Due.repeat("not (", 4) + "|not fresh" + Due.repeat(")", 4) + ": forget;");
    good(ASK + "not fresh and not fresh and not fresh and (((((((fresh))))))) and not not not not not not fresh: forget;");
  }

  private static void foldsAndTape() {
    EventLedger x = new EventLedger();
    Due.event(x, 0, 0, 0, 0);
    Due.event(x, 0, 0, 0, 0);
    Due.tape(x, ACT + "place + 1;");
    Due.due("another fold", x.define(6), EventLedger.REFUSED);
    Due.due("another fold", x.define(-1), EventLedger.REFUSED);
    Due.due("the tape stays", x.define(5), EventLedger.NONE);
    Due.due("the tape is read", x.end(1), EventLedger.REFUSED);
    Due.due("run", x.run(5, 600), 2);
    Due.due("fault", Due.define(x, 5, "by"), 2);
    Due.due("the fold stays", x.fold(5, 0), 2);
    Due.due("the fold stays", x.cell(5, 0, 0), 2);
    Due.due("a fault empties the tape, too", x.feed(0, 0, 0, 0, 0), 20);
    Due.due("end", x.end(0), 0);
    Due.program(x, 5, ACT + "7;");
    Due.due("place 0", x.fold(5, 0), 0);
    Due.due("without cells", x.fold(5, 1), 0);
    Due.due("run", x.run(5, 1), 1);
    Due.due("the new program", x.cell(5, 0, 0), 7);
    Due.due("others stay", x.fold(4, 0), -1);
    String padded = ACT + "1;" + Due.repeat(" ", 1200 - ACT.length() - 2);
    Due.program(x, 0, padded);
    Due.due("fault behind 1199 bytes", Due.define(x, 0, padded.substring(0, 1199) + "."), 1199);
  }
}
