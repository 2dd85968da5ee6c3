/** Promises 58 to 68: tables of crosses, concepts, implications and exploring. */
public final class CrossesTest {
  private static final Check check = new Check("CrossesTest");

  public static void main(String[] args) {
    table();
    cross();
    concepts();
    conceptOrder();
    implications();
    explore();
    question();
    accept();
    refuse();
    sixThings();
    check.end();
  }

  /** A table by its things, each one by its set of marks. */
  private static void fill(Zetaposet z, int marks, int... things) {
    z.table(things.length, marks);
    for (int thing = 0; thing < things.length; thing++) {
      for (int mark = 0; mark < marks; mark++) {
        z.cross(thing, mark, (things[thing] >> mark & 1) != 0);
      }
    }
  }

  private static String concepts(Zetaposet z) {
    StringBuilder text = new StringBuilder();
    for (int i = 0; i < z.concepts(); i++) {
      text.append(z.conceptAt(i, false)).append(':').append(z.conceptAt(i, true)).append(' ');
    }
    return text.toString().trim();
  }

  private static String implications(Zetaposet z) {
    StringBuilder text = new StringBuilder();
    for (int i = 0; i < z.implications(); i++) {
      text.append(z.implicationAt(i, true)).append('>').append(z.implicationAt(i, false));
      text.append(' ');
    }
    return text.toString().trim();
  }

  private static void table() {
    Zetaposet z = new Zetaposet();
    check.is("58: none before", z.table(6, 6), 0);
    check.is("58: six before", z.table(0, 1), 6);
    check.is("58: none again", z.table(2, 3), 0);
    z.cross(0, 0, true);
    check.fails("58: things", Check.ARGUMENT, () -> z.table(7, 3));
    check.fails("58: negative", Check.ARGUMENT, () -> z.table(-1, 3));
    check.fails("58: marks", Check.ARGUMENT, () -> z.table(3, 7));
    check.fails("58: no marks", Check.ARGUMENT, () -> z.table(3, 0));
    check.isTrue("58: nothing changed", z.cross(0, 0, true));
    check.is("58: two before", z.table(2, 3), 2);
    check.isFalse("58: without crosses", z.cross(0, 0, false));
    z.explore(2);
    check.fails("58: exploring goes on", Check.ARGUMENT, () -> z.table(0, 0));
    check.is("58: it does", z.question(false), 3);
    z.refuse(1);
    z.refuse(2);
    check.is("58: as many as were explored", z.table(1, 1), 2);
    check.fails("58: exploring ends", Check.NONE, () -> z.question(true));
    check.isFalse("58: crosses can be set", z.cross(0, 0, true));
  }

  private static void cross() {
    Zetaposet z = new Zetaposet();
    z.table(2, 3);
    check.isFalse("59: was none", z.cross(1, 2, true));
    check.isTrue("59: was one", z.cross(1, 2, true));
    check.isTrue("59: was still one", z.cross(1, 2, false));
    check.isFalse("59: was none again", z.cross(1, 2, false));
    check.isFalse("59: another", z.cross(0, 2, true));
    check.is("59: the things with mark 2", concepts(z), "0:3 4:1 7:0");
    check.fails("59: thing", Check.INDEX, () -> z.cross(2, 0, true));
    check.fails("59: negative thing", Check.INDEX, () -> z.cross(-1, 0, true));
    check.fails("59: mark", Check.INDEX, () -> z.cross(0, 3, true));
    check.fails("59: negative mark", Check.INDEX, () -> z.cross(0, -1, true));
    z.explore(2);
    check.fails("59: exploring, no such thing", Check.INDEX, () -> z.cross(0, 0, true));
    z.refuse(2);
    check.fails("59: exploring", Check.STATE, () -> z.cross(0, 0, true));
    check.fails("59: exploring, no such mark", Check.INDEX, () -> z.cross(0, 2, true));
    check.is("59: nothing changed", concepts(z), "2:1 3:0");
    z.accept();
    check.fails("59: it has ended", Check.NONE, () -> z.question(true));
    check.fails("59: until a table is made", Check.STATE, () -> z.cross(0, 0, true));
    z.table(1, 1);
    check.isFalse("59: then", z.cross(0, 0, true));
  }

  private static void concepts() {
    Zetaposet z = new Zetaposet();
    check.is("60: a new object", concepts(z), "1:0");
    fill(z, 3, 3, 2, 6);
    check.is("60: how many", z.concepts(), 4);
    check.is("61: which", concepts(z), "2:7 3:1 6:4 7:0");
    fill(z, 2, 3, 3);
    check.is("61: one for all", concepts(z), "3:3");
    fill(z, 2, 0);
    check.is("61: none and all", concepts(z), "0:1 3:0");
    fill(z, 6, 62, 61, 59, 55, 47, 31);
    check.is("60: all sets", z.concepts(), 64);
    check.is("61: the last", z.conceptAt(63, true), 0);
    check.is("61: the first", z.conceptAt(0, true), 63);
    check.is("61: one between", z.conceptAt(5, true), 63 - 5);
    check.fails("61: no such one", Check.INDEX, () -> z.conceptAt(64, false));
    check.fails("61: negative", Check.INDEX, () -> z.conceptAt(-1, true));
    check.fails("61: greatest", Check.INDEX, () -> z.conceptAt(Integer.MAX_VALUE, true));
  }

  private static void conceptOrder() {
    Zetaposet z = new Zetaposet();
    fill(z, 3, 3, 2, 6);
    check.is("62: number", z.conceptOrder(), 0);
    check.is("62: size", z.size(0), 4);
    check.is("62: of all things", z.above(0, 0), 0);
    check.is("62: of one thing", z.above(0, 1), Orders.set(0));
    check.is("62: of none", z.above(0, 3), Orders.set(0, 1, 2));
    fill(z, 4, 14, 13, 11, 7);
    check.fails("62: 16", Check.ARGUMENT, () -> z.conceptOrder());
    fill(z, 4, 14, 13, 11, 3);
    check.is("62: 12 concepts", z.concepts(), 12);
    z.conceptOrder();
    check.is("62: just 12", z.size(1), 12);
    z.explore(2);
    z.conceptOrder();
    check.is("62: of what is explored", z.size(2), 1);
    Orders.fill(z);
    check.fails("62: 10 orders", Check.STATE, () -> z.conceptOrder());
    fill(z, 4, 14, 13, 11, 7);
    check.fails("62: the size first", Check.ARGUMENT, () -> z.conceptOrder());
  }

  private static void implications() {
    Zetaposet z = new Zetaposet();
    fill(z, 3, 3, 2, 6);
    check.is("63: one", z.implications(), 1);
    // {0,2} is not told of: all things have mark 1, so that it does not hold the conclusion of {}.
    check.is("64: it", implications(z), "0>2");
    fill(z, 3, 1, 2, 4);
    check.is("64: by rising size, then by numbers", implications(z), "3>7 5>7 6>7");
    fill(z, 3, 6, 1);
    check.is("64: small ones first", implications(z), "2>6 4>6");
    fill(z, 4, 3, 5, 12);
    check.is("64: with what smaller ones conclude", implications(z), "2>3 8>12 7>15 13>15");
    fill(z, 2, 3);
    check.is("64: all marks", implications(z), "0>3");
    fill(z, 2, 1, 2, 3, 0);
    check.is("63: none", z.implications(), 0);
    fill(z, 6);
    check.is("64: no things", implications(z), "0>63");
    fill(z, 6, 0);
    check.is("64: each mark", implications(z), "1>63 2>63 4>63 8>63 16>63 32>63");
    check.fails("64: no such one", Check.INDEX, () -> z.implicationAt(6, true));
    check.fails("64: negative", Check.INDEX, () -> z.implicationAt(-1, false));
    z.table(1, 1);
    z.cross(0, 0, true);
    check.is("64: the rest is gone", implications(z), "0>1");
    z.table(0, 2);
    check.is("64: found anew", z.implicationAt(0, false), 3);
    z.table(1, 2);
    check.is("64: and anew", z.implicationAt(1, true), 2);
  }

  private static void explore() {
    Zetaposet z = new Zetaposet();
    fill(z, 3, 3, 2, 6);
    check.fails("65: none", Check.ARGUMENT, () -> z.explore(0));
    check.fails("65: seven", Check.ARGUMENT, () -> z.explore(7));
    check.is("65: nothing changed", z.concepts(), 4);
    check.fails("65: nothing begun", Check.NONE, () -> z.question(true));
    check.is("65: the first premise", z.explore(6), 0);
    check.is("65: all marks", z.question(false), 63);
    check.is("65: no things", z.conceptAt(0, true), 0);
    z.refuse(5);
    z.refuse(0);
    z.accept();
    check.is("65: again", z.explore(3), 0);
    check.is("65: from the beginning", z.question(false), 7);
    check.is("65: no rules", z.accept(), 1);
  }

  private static void question() {
    Zetaposet z = new Zetaposet();
    check.fails("66: nothing explored", Check.NONE, () -> z.question(true));
    check.fails("66: nothing explored, conclusion", Check.NONE, () -> z.question(false));
    z.explore(3);
    check.is("66: premise", z.question(true), 0);
    check.is("66: conclusion", z.question(false), 7);
    z.refuse(6);
    check.is("66: the same premise", z.question(true), 0);
    check.is("66: another conclusion", z.question(false), 6);
    z.refuse(2);
    check.is("66: yet another", z.question(false), 2);
    z.accept();
    check.is("66: the next premise", z.question(true), 3);
    check.is("66: its conclusion", z.question(false), 7);
    z.accept();
    check.fails("66: it has ended", Check.NONE, () -> z.question(true));
    check.is("63: what holds", implications(z), "0>2 3>7");
  }

  private static void accept() {
    Zetaposet z = new Zetaposet();
    check.fails("67: nothing explored", Check.NONE, () -> z.accept());
    z.table(2, 2);
    check.fails("67: a table", Check.NONE, () -> z.accept());
    z.explore(2);
    z.refuse(0);
    check.is("67: one", z.accept(), 1);
    check.is("67: two", z.accept(), 2);
    check.fails("67: it has ended", Check.NONE, () -> z.accept());
    check.is("67: accepted", implications(z), "1>3 2>3");
    z.explore(1);
    check.is("67: anew", z.accept(), 1);
  }

  private static void refuse() {
    Zetaposet z = new Zetaposet();
    check.fails("68: nothing explored", Check.NONE, () -> z.refuse(0));
    check.fails("68: nothing explored, no such marks", Check.NONE, () -> z.refuse(-1));
    z.explore(3);
    check.fails("68: no such marks", Check.ARGUMENT, () -> z.refuse(8));
    check.fails("68: negative", Check.ARGUMENT, () -> z.refuse(-1));
    check.fails("68: all of the conclusion", Check.ARGUMENT, () -> z.refuse(7));
    check.is("68: the first", z.refuse(1), 1);
    check.is("68: the second", z.refuse(2), 2);
    // 0 and 1 alone are closed, mark 2 is not.
    check.is("68: the question", z.question(true), 4);
    check.fails("68: without the premise", Check.ARGUMENT, () -> z.refuse(3));
    check.fails("68: with all of it", Check.ARGUMENT, () -> z.refuse(7));
    check.is("68: with a part of it", z.refuse(5), 3);
    check.is("68: and so on", z.question(false), 5);
    check.is("68: accepted", z.accept(), 1);
    check.is("68: now", z.question(true), 3);
    check.is("68: to all", z.question(false), 7);
    check.is("68: it need not hold the rest", z.refuse(3), 4);
    check.fails("68: it has ended", Check.NONE, () -> z.refuse(0));

    z.explore(3);
    z.refuse(0);
    z.accept();
    check.is("68: the rule", implications(z), "1>7 2>7 4>7");
    check.is("68: question", z.question(true), 2);
    check.fails("68: a rule does not hold", Check.UNSUPPORTED, () -> z.refuse(3));
    check.fails("68: what is asked first", Check.ARGUMENT, () -> z.refuse(1));
    check.is("68: nothing changed", z.refuse(6), 2);

    z.explore(4);
    z.refuse(0);
    z.refuse(3);
    check.is("68: mark 0 has mark 1", z.question(false), 3);
    z.accept();
    z.refuse(2);
    check.is("68: then mark 2", z.question(true), 4);
    check.fails("68: has 0, not 1", Check.UNSUPPORTED, () -> z.refuse(5));
    check.is("68: has 0 and 1", z.refuse(7), 4);
    check.is("68: still mark 2", z.question(false), 7);
    check.is("68: has not 0", z.refuse(6), 5);
    check.is("68: still", z.question(false), 6);
    check.is("68: alone", z.refuse(4), 6);
  }

  private static void sixThings() {
    Zetaposet z = new Zetaposet();
    z.explore(6);
    int[] things = {63 - 1, 63 - 2, 63 - 4, 63 - 8, 63 - 16};
    for (int i = 0; i < things.length; i++) {
      check.is("68: thing", z.refuse(things[i]), i + 1);
    }
    check.is("68: all but one", z.question(false), 32);
    check.is("68: the sixth", z.refuse(31), 6);
    check.fails("68: all is closed", Check.NONE, () -> z.question(true));
    z.explore(6);
    z.refuse(0);
    for (int i = 0; i < 5; i++) {
      z.refuse(1 << i);
    }
    check.is("68: a question is left", z.question(true), 32);
    check.fails("68: 6 things", Check.UNSUPPORTED, () -> z.refuse(32));
    check.fails("68: no such marks first", Check.ARGUMENT, () -> z.refuse(64));
    check.fails("68: what refuses nothing first", Check.ARGUMENT, () -> z.refuse(31));
    for (int i = 1; i <= 11; i++) {
      check.is("68: the lone one, and the pairs of the other five", z.accept(), i);
    }
    check.fails("68: it has ended", Check.NONE, () -> z.question(true));
  }
}
