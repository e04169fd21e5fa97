/** Terms 3: each sentence on TEXTS and FAULTS that names a boundary case, by a test of its own. */
public final class TextEdgeTest {
  private static final String STARTS = "group load camp set plan end";
  private static final String NAMES = "rest easy steady hard long race";

  /** Tokens that are tried at each place; "end" is the text's end. */
  private static final String[] TRIED = {"group", "load", "camp", "set", "plan", "again", "rest", "easy", "steady", "hard", "long",
    "race", "x", "groups", "eas", "5", "(", ")", ";", "end", "A", "-", "/", ":", "`", "{", "\t", "\r", "\u0000", "\u00ff", "\u00a0"};

  /** A text up to a place, and the tokens that can stand there. A group is there, no camps. */
  private static final String[][] PLACES = {
    {"", STARTS},
    {"set 5 5 ; ", STARTS},
    {"plan 0 5 ; ", STARTS},
    {"group ", "5"},
    {"group 5 ", "5"},
    {"group 5 5 ", ";"},
    {"load ", "easy steady hard long race"},
    {"load easy ", "5"},
    {"load easy 5 ", ";"},
    {"camp ", "5"},
    {"camp 5 ", "5"},
    {"camp 5 5 ", ";"},
    {"set ", "5"},
    {"set 5 ", "5"},
    {"set 5 5 ", ";"},
    {"plan ", "5"},
    {"plan 0 ", "5"},
    {"plan 0 5 ", NAMES + " 5 again ;"},
    {"plan 0 5 5 ", NAMES},
    {"plan 0 5 easy ", NAMES + " 5 again ;"},
    {"plan 0 5 5 easy ", NAMES + " 5 again ;"},
    {"plan 0 5 again ", "5"},
    {"plan 0 5 again 5 ", "("},
    {"plan 0 5 again 5 ( ", NAMES + " 5 again"},
    {"plan 0 5 again 5 ( 5 ", NAMES},
    {"plan 0 5 again 5 ( easy ", NAMES + " 5 again )"},
    {"plan 0 5 again 5 ( easy ) ", NAMES + " 5 again ;"},
    {"plan 0 5 again 5 ( again ", "5"},
    {"plan 0 5 again 5 ( again 5 ", "("},
    {"plan 0 5 again 5 ( again 5 ( ", NAMES + " 5 again"},
    {"plan 0 5 again 5 ( easy again 5 ( ", NAMES + " 5 again"},
    {"plan 0 5 again 5 ( again 5 ( easy ", NAMES + " 5 again )"},
    {"plan 0 5 again 5 ( again 5 ( easy ) ", NAMES + " 5 again )"},
    {"plan 0 5 again 5 ( again 5 ( easy ) ) ", NAMES + " 5 again ;"}};

  public static void main(String[] args) {
    tapes();
    statements();
    items();
    tokens();
    places();
    cantStand();
    cantBe();
    tooMany();
    beyond();
    Check.finish();
  }

  private static TrainingBook alone() {
    TrainingBook x = new TrainingBook();
    x.group(0, 0);
    return x;
  }

  private static void told(String text, int statements) {
    Check.told(alone(), text, statements);
  }

  private static void faulty(String text, int kind, int place) {
    Check.faulty(alone(), text, kind, place);
  }

  /** The text is told of a group at rest; its days from one on have these kinds, all else is rest. */
  private static void planned(String text, int from, String kinds) {
    TrainingBook x = alone();
    Check.told(x, text, 1);
    for (int d = 0; d < 70; d++) {
      boolean within = d >= from && d < from + kinds.length();
      Check.due(text + " kind on " + d, x.day(0, d, 0), within ? kinds.charAt(d - from) - '0' : 0);
    }
  }

  private static void tapes() {
    Check.edge("TEXTS, at most 400 bytes", () -> {
      told("set 0 9;".repeat(50), 50);
      told(" ".repeat(392) + "set 0 9;", 1);
      faulty("set 0 9;".repeat(49) + "set 0 9 ", 1, 400);
      faulty(" ".repeat(399) + ";", 1, 399);
      faulty(";".repeat(400), 1, 0);
      TrainingBook x = alone();
      Check.put(x, " ".repeat(400));
      Check.due("a 401st", x.feed(0, 0, 0, 0, 0), -1);
      Check.due("tell", x.tell(), 0);
    });
    Check.edge("{ STATEMENT ; }", () -> {
      told("", 0);
      told("set 0 9;", 1);
      told("set 0 9;set 0 9;", 2);
      faulty(";", 1, 0);
      faulty("set 0 9", 1, 7);
      faulty("set 0 9;;", 1, 8);
      faulty("set 0 9 set 0 9;", 1, 8);
    });
    Check.edge("goes on from what there is", TextEdgeTest::openAgains);
    Check.edge("A TEXT goes on from what there is", () -> {
      TrainingBook x = alone();
      x.camp(3, 4);
      Check.told(x, "group 7 8;camp 5 6;plan 1 2 easy;", 3);
      Check.due("groups", x.count(0), 2);
      Check.due("camps", x.count(1), 2);
      Check.told(x, "plan 1 3 hard;", 1);
      Check.due("what a text told ahead stays", x.day(1, 2, 0), 1);
      Check.told(x, "group 1 1;group 1 1;group 1 1;group 1 1;plan 5 0 race;camp 1 1;camp 1 1;", 7);
      Check.due("groups", x.count(0), 6);
      Check.faulty(x, "group 1 1;", 3, 0);
      Check.faulty(x, "camp 1 1;", 3, 0);
    });
  }

  // What a text with a fault left open is nothing to the next.
  private static void openAgains() {
    TrainingBook x = alone();
    Check.faulty(x, "plan 0 3 again 2(again 3(again 4(again 5(easy;", 1, 45);
    Check.faulty(x, "plan 0 0 easy);", 1, 13);
    Check.told(x, "plan 0 0 easy;", 1);
    Check.told(x, "plan 0 0 again 1(again 1(again 1(again 1(easy))));", 1);
    Check.due("day 1 is at rest", x.day(0, 1, 0), 0);
  }

  private static void statements() {
    Check.edge("group INT INT (one more: FIT, TIRED)", () -> {
      TrainingBook x = new TrainingBook();
      Check.told(x, "group 0 9999;group 9999 0;", 2);
      Check.due("fit of 0", x.day(0, 0, 2), 0);
      Check.due("tired of 0", x.day(0, 0, 3), 8571);
      Check.due("fit of 1", x.day(1, 0, 2), 9761);
      Check.due("tired of 1", x.day(1, 0, 3), 0);
      Check.due("at rest", x.plan(1, 0, 69, 0), 0);
    });
    Check.edge("load NAME INT (of a KIND; rest can't stand there)", () -> {
      faulty("load rest 0;", 1, 5);
      faulty("load rest", 1, 5);
      faulty("load 1 0;", 1, 5);
      TrainingBook x = alone();
      Check.told(x, "load easy 0;load race 300;load hard 90;", 3);
      Check.due("easy", x.count(11), 0);
      Check.due("race", x.count(15), 300);
      Check.due("hard, as it was", x.count(13), 90);
    });
    Check.edge("camp INT INT", () -> {
      TrainingBook x = alone();
      Check.told(x, "camp 0 0;camp 69 69;camp 0 69;", 3);
      int[] days = {0, 0, 69, 69, 0, 69};
      for (int c = 0; c < 3; c++) Check.due("first", x.camped(c, false), days[2 * c]);
      for (int c = 0; c < 3; c++) Check.due("last", x.camped(c, true), days[2 * c + 1]);
    });
    Check.edge("set INT INT (SETTING, number)", () -> {
      TrainingBook x = alone();
      Check.told(x, "set 0 42;set 7 300;set 7 100;", 3);
      Check.due("as it was", x.count(20), 42);
      Check.due("the latter", x.count(27), 100);
    });
    Check.edge("plan INT INT { ITEM } (GROUP, the DAY from which: KINDS for one DAY behind the other)", () -> {
      planned("plan 0 0;", 0, "");
      planned("plan 0 69;", 0, "");
      planned("plan 0 0 race;", 0, "5");
      planned("plan 0 69 race;", 69, "5");
      planned("plan 0 30 easy rest steady;", 30, "102");
      TrainingBook x = alone();
      x.plan(0, 0, 69, 5);
      Check.told(x, "plan 0 1 rest easy;", 1);
      int[] due = {5, 0, 1, 5};
      for (int d = 0; d < 4; d++) Check.due("kind on " + d, x.day(0, d, 0), due[d]);
      Check.told(x, "plan 0 3;", 1);
      Check.due("none became others", x.plan(0, 3, 69, 5), 0);
    });
  }

  private static void items() {
    Check.edge("[ INT ] NAME (so many DAYS, 1 to 70; one)", () -> {
      planned("plan 0 0 easy;", 0, "1");
      planned("plan 0 0 1 easy;", 0, "1");
      planned("plan 0 0 70 easy;", 0, "1".repeat(70));
      faulty("plan 0 0 0 easy;", 2, 9);
      faulty("plan 0 0 71 easy;", 2, 9);
    });
    Check.edge("again INT ( ITEM { ITEM } ) (so often, 1 to 70)", () -> {
      planned("plan 0 0 again 1(easy hard);", 0, "13");
      planned("plan 0 0 again 2(easy 2 hard);", 0, "133133");
      planned("plan 0 0 again 70(easy);", 0, "1".repeat(70));
      planned("plan 0 69 again 1(easy);", 69, "1");
      faulty("plan 0 0 again 0(easy);", 2, 15);
      faulty("plan 0 0 again 71(easy);", 2, 15);
      faulty("plan 0 0 again 2();", 1, 17);
      faulty("plan 0 0 easy again 2();", 1, 22);
      faulty("plan 0 0 again 1(again 2());", 1, 25);
    });
    Check.edge("4 of these within one another at most", () -> {
      planned("plan 0 0 again 2(again 2(again 2(again 2(easy))));", 0, "1".repeat(16));
      planned("plan 0 0 again 1(again 1(again 1(again 1(easy)again 2(hard))))again 1(again 1(easy));", 0, "1331");
      planned("plan 0 0" + " again 1(hard)".repeat(20) + ";", 0, "3".repeat(20));
      faulty("plan 0 0 again 2(again 2(again 2(again 2(again 2(easy)))));", 3, 41);
    });
  }

  private static void tokens() {
    Check.edge("words (letters a to z, as many as stand there)", () -> {
      faulty("groupgroup 1 1;", 1, 0);
      faulty("plan 0 0 easyhard;", 1, 9);
      faulty("plan 0 0 restz;", 1, 9);
      faulty("plan 0 0 reste;", 1, 9);
      faulty("plan 0 0 aeasy;", 1, 9);
      faulty("plan 0 0 oasy;", 1, 9);
      faulty("plan 0 0 easi;", 1, 9);
      faulty("plan 0 0 eas;", 1, 9);
      faulty("plan 0 0 res t;", 1, 9);
      faulty("plan 0 0 again2(easyrest);", 1, 16);
      faulty("plan 0 0 easY;", 1, 9);
      faulty("plan 0 0 easyY;", 1, 13);
      faulty("plan 0 0 easy`;", 1, 13);
      faulty("plan 0 0 easy{;", 1, 13);
      faulty("Plan 0 0 easy;", 1, 0);
      faulty("a".repeat(400), 1, 0);
    });
    Check.edge("INTS (digits, as many as stand there)", () -> {
      TrainingBook x = alone();
      Check.told(x, "group0000 9999;plan0 0002 0003easy4hard;", 2);
      Check.due("easy up to 4", x.day(0, 4, 0), 1);
      Check.due("hard up to 8", x.day(0, 8, 0), 3);
      Check.due("rest on 9", x.day(0, 9, 0), 0);
      faulty("group 12 ;", 1, 9);
      faulty("group 9999 99990;", 2, 11);
      faulty("group 1 1/;", 1, 9);
      faulty("group 1 1:;", 1, 9);
      faulty("group 1 " + "1".repeat(392), 2, 8);
    });
    Check.edge("single bytes", () -> {
      planned("plan 0 0 again 2(again 2(easy)rest);", 0, "110110");
      faulty("plan 0 0 again 2((easy;", 1, 17);
      faulty("set 0 9;;;", 1, 8);
      for (int b = 0; b < 256; b++) {
        boolean blank = b == 32 || b == 10;
        boolean word = b >= 'a' && b <= 'z' || b >= '0' && b <= '9';
        if (!blank) faulty("set 0 9;" + (char) b, 1, 8);
        if (!blank && !word && b != ';') faulty("set 0 9" + (char) b + ";", 1, 7);
      }
    });
    Check.edge("blanks (32, 10) between them as one likes", () -> {
      told(" \n", 0);
      planned("\n\n  plan 0\n0 again 2 (\neasy ) ; \n ", 0, "11");
      planned("plan 0 0again2(2easy again1(hard)race);", 0, "11351135");
      faulty("gr oup 1 1;", 1, 0);
      faulty("plan 0 6 9 1;", 1, 11);
      faulty("plan 0\t0;", 1, 6);
      faulty("plan 0\r0;", 1, 6);
      faulty("plan 0\u00a00;", 1, 6);
      faulty("plan 0\u00000;", 1, 6);
    });
  }

  private static void places() {
    Check.edge("(a TOKEN's first byte; the end's: the text's length)", () -> {
      faulty(" \n blue", 1, 3);
      faulty("set  800", 2, 5);
      faulty("set", 1, 3);
      faulty("set ", 1, 4);
      faulty("set 0 9 \n\n ", 1, 11);
      faulty("plan 0 0 again 2(easy  ", 1, 23);
      faulty("plan 0 0 again 2(easy" + " ".repeat(379), 1, 400);
      TrainingBook x = alone();
      Check.put(x, "set 0 9999999;");
      Check.due("cut within a token", x.end(7), true);
      Check.due("tell", x.tell(), -1);
      Check.due("the end is the length of what is left", x.fault(), 1 + 8 * 7);
    });
    Check.edge("the first along the text", () -> {
      faulty("set 9 1;blue", 2, 4);
      faulty("camp 70 blue", 2, 5);
      faulty("plan 0 69 2 easy blue", 4, 12);
      faulty("plan 0 68 again 2(2 easy) 71", 4, 24);
      faulty("camp 1 1;camp 1 1;camp 1 1;camp 1 1;camp 99", 3, 36);
      faulty("blue camp 70;", 1, 0);
    });
    Check.edge("of one place the least", () -> {
      faulty("set 0 99999 99999;", 2, 6);
      faulty("99999", 1, 0);
      faulty("set 0 9 99999;", 1, 8);
      faulty("plan 0 0 again 1(again 1(again 1(again 1(2 again 1(easy)))));", 1, 43);
      faulty("plan 0 0 70 easy 2 blue;", 1, 19);
      faulty("plan 0 0 70 easy 99999 easy;", 2, 17);
    });
  }

  private static boolean canStand(String[] place, String token) {
    return (" " + place[1] + " ").contains(" " + token + " ");
  }

  private static void cantStand() {
    for (String[] place : PLACES) {
      Check.edge("1 what can't stand there", () -> {
        int at = place[0].length();
        for (String token : TRIED) {
          TrainingBook x = alone();
          String text = place[0] + (token.equals("end") ? "" : token);
          int statements = Check.tell(x, text);
          if (canStand(place, token)) {
            Check.due("1 at " + at + " of " + text, x.fault() == 1 + 8 * at, false);
          } else {
            Check.due("tell of " + text, statements, -1);
            Check.due("fault of " + text, x.fault(), 1 + 8L * at);
          }
        }
      });
    }
  }

  /** An INT behind a text may be from least to most. */
  private static void range(String ahead, int least, int most) {
    int at = ahead.length();
    for (int v : new int[] {0, least - 1, least, most, most + 1, 9999}) {
      if (v < 0) continue;
      TrainingBook x = alone();
      String text = ahead + v;
      Check.due("tell of " + text, Check.tell(x, text), -1);
      boolean canBe = v >= least && v <= most && v <= 9999;
      Check.due("fault of " + text, x.fault(), canBe ? 1 + 8L * text.length() : 2 + 8L * at);
    }
  }

  private static void cantBe() {
    Check.edge("2 an INT that can't be", () -> {
      range("group ", 0, 9999);
      range("group 5 ", 0, 9999);
      range("load easy ", 0, 300);
      int[] least = {2, 2, 1, 1, 100, 1, 0, 100};
      int[] most = {99, 99, 9, 9, 400, 14, 2100, 300};
      for (int s = 0; s < 8; s++) range("set " + s + " ", least[s], most[s]);
      range("plan 0 0 ", 1, 70);
      range("plan 0 0 easy ", 1, 70);
      range("plan 0 0 again ", 1, 70);
      range("plan 0 0 again 2 ( ", 1, 70);
      range("plan 0 0 again 2 ( again ", 1, 70);
    });
    Check.edge("(more than 4 digits", () -> {
      for (String[] place : PLACES) {
        TrainingBook x = alone();
        Check.due("tell", Check.tell(x, place[0] + "00001"), -1);
        int kind = canStand(place, "5") ? 2 : 1;
        Check.due("fault of " + place[0] + "00001", x.fault(), kind + 8L * place[0].length());
      }
      told("set 0 0009;", 1);
      faulty("set 0 00009;", 2, 6);
      faulty("set 0 4294967305;", 2, 6);
      faulty("set 0 18446744073709551625;", 2, 6);
    });
    Check.edge("no such GROUP, DAY, SETTING, too", () -> {
      Check.faulty(new TrainingBook(), "plan 0 0;", 2, 5);
      Check.faulty(new TrainingBook(), "group 1 1;plan 1 0;", 2, 15);
      Check.told(new TrainingBook(), "group 1 1;plan 0 0;", 2);
      range("plan ", 0, 0);
      range("group 1 1;plan ", 0, 1);
      range("plan 0 ", 0, 69);
      range("camp ", 0, 69);
      range("camp 0 ", 0, 69);
      range("set ", 0, 7);
    });
    Check.edge("of a camp one below the first", () -> {
      range("camp 33 ", 33, 69);
      range("camp 1 ", 1, 69);
      range("camp 69 ", 69, 69);
      told("camp 69 69;", 1);
    });
  }

  private static void tooMany() {
    Check.edge("3 one too many: a 7th GROUP", () -> {
      Check.told(new TrainingBook(), "group 1 1;".repeat(6), 6);
      Check.faulty(new TrainingBook(), "group 1 1;".repeat(6) + " group 1 1;", 3, 61);
      faulty("group 1 1;".repeat(6), 3, 50);
      faulty("group 1 1;".repeat(5) + "group", 3, 50);
      faulty("group 1 1;".repeat(5) + "group 10000 x", 3, 50);
      told("group 1 1;".repeat(5), 5);
    });
    Check.edge("a 5th CAMP (at the word)", () -> {
      told("camp 1 1;".repeat(4), 4);
      faulty("camp 1 1;".repeat(4) + "\ncamp 1 1;", 3, 37);
      faulty("camp 1 1;".repeat(4) + "camp", 3, 36);
      faulty("camp 1 1;".repeat(4) + "camp 5 4;", 3, 36);
      TrainingBook x = alone();
      Check.told(x, "camp 1 1;".repeat(4), 4);
      Check.faulty(x, "camp 1 1;", 3, 0);
      x.strike(0);
      Check.told(x, "camp 1 1;", 1);
    });
    Check.edge("a 5th again within others (at it)", () -> {
      String four = "plan 0 0 again 1(again 1(again 1(again 1(";
      faulty(four + "again", 3, 41);
      faulty(four + "again 99(", 3, 41);
      faulty(four + " easy again 1(easy)))));", 3, 47);
      faulty(four + "easy)again 1(again", 3, 54);
      told(four + "easy)again 1(easy))));", 1);
      told(four + "easy))))again 1(easy);", 1);
    });
  }

  private static void beyond() {
    Check.edge("4 a DAY beyond 69: at the name by which there would be one", () -> {
      told("plan 0 69 easy;", 1);
      faulty("plan 0 69 easy rest;", 4, 15);
      faulty("plan 0 69 2 easy;", 4, 12);
      told("plan 0 1 69 easy;", 1);
      faulty("plan 0 1 70 easy;", 4, 12);
      faulty("plan 0 69 70 easy;", 4, 13);
      told("plan 0 0 70 rest;", 1);
      faulty("plan 0 0 70 rest rest;", 4, 17);
      faulty("plan 0 69 easy 70", 1, 17);
    });
    Check.edge("(what stands in an again that is open yet counting once)", () -> {
      faulty("plan 0 68 again 70(easy rest race);", 4, 29);
      faulty("plan 0 0 again 70(35 easy 35 easy 1 rest);", 4, 36);
      faulty("plan 0 0 again 70(again 70(69 easy rest rest));", 4, 40);
      faulty("plan 0 0 again 70(again 2(30 easy) 11 rest));", 4, 38);
      faulty("plan 0 60 again 2(5 easy) again 1(easy);", 4, 34);
    });
    Check.edge("at the ) of an again by which there would be one (by its being so often)", () -> {
      told("plan 0 0 again 35(easy rest);", 1);
      faulty("plan 0 0 again 36(easy rest);", 4, 27);
      faulty("plan 0 1 again 35(easy rest);", 4, 27);
      faulty("plan 0 69 again 2(easy);", 4, 22);
      faulty("plan 0 0 again 70(70 easy);", 4, 25);
      faulty("plan 0 0 again 70(2 again", 1, 20);
      told("plan 0 0 again 2(again 5(again 7(easy)));", 1);
      faulty("plan 0 0 again 2(again 6(again 6(easy)));", 4, 39);
      faulty("plan 0 0 again 2(again 11(again 7(easy)));", 4, 39);
      faulty("plan 0 0 again 70(again 70(again 70(again 70(70 rest))));", 4, 52);
      told("plan 0 0 again 2(again 34(easy)rest);", 1);
      faulty("plan 0 0 again 2(again 34(easy)2 rest);", 4, 37);
    });
  }
}
