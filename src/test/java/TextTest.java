/** Promises 2 to 5 and Terms 3: the tape, texts and their faults. */
public final class TextTest {
  public static void main(String[] args) {
    tape();
    statements();
    tokens();
    cutTokens();
    items();
    cantStand();
    cantBe();
    tooMany();
    beyond();
    firstAndLeast();
    faultsLeaveAllElse();
    Check.finish();
  }

  private static void tape() {
    TrainingBook x = new TrainingBook();
    Check.due("end(0) of none", x.end(0), true);
    Check.due("end(1) of none", x.end(1), false);
    Check.due("end(-1)", x.end(-1), false);
    for (int n = 1; n <= 20; n++) Check.due("feed " + n, x.feed(-1, 0, 1, 2, 3), 20 * n);
    Check.due("feed of more", x.feed(0, 0, 0, 0, 0), -1);
    Check.due("none came", x.count(2), 400);
    Check.due("end(401)", x.end(401), false);
    Check.due("end(400)", x.end(400), true);
    Check.due("end(381)", x.end(381), true);
    Check.due("feed of more than 400", x.feed(0, 0, 0, 0, 0), -1);
    Check.due("still", x.count(2), 381);
    Check.due("end(380)", x.end(380), true);
    Check.due("feed up to 400", x.feed(0, 0, 0, 0, 0), 400);
    Check.due("end(MIN)", x.end(Integer.MIN_VALUE), false);
    Check.due("end(MAX)", x.end(Integer.MAX_VALUE), false);
    Check.due("tell", x.tell(), -1);
    Check.due("byte 255 can't stand there", x.fault(), 1);
    Check.due("the tape is empty then", x.count(2), 0);
    Check.due("the empty one is told", x.tell(), 0);
    Check.due("fault", x.fault(), 0);
    Check.due("it was done", x.count(3), 1);
    Check.put(x, "group 1 1;");
    Check.due("bytes", x.count(2), 10);
    Check.due("tell", x.tell(), 1);
    Check.due("empty then", x.count(2), 0);

    StringBuilder s = new StringBuilder();
    for (int i = 0; i < 50; i++) s.append("set 0 9;");
    Check.told(x, s.toString(), 50);
    Check.told(x, " ".repeat(400), 0);
    Check.faulty(x, " ".repeat(399) + "x", 1, 399);
    Check.faulty(x, ";".repeat(400), 1, 0);
  }

  private static void statements() {
    TrainingBook x = new TrainingBook();
    Check.told(x, "group 9999 0;group 0 9999;", 2);
    Check.due("groups", x.count(0), 2);
    Check.due("fit", x.day(0, 0, 2), 9999 - 9999 / 42);
    Check.due("tired", x.day(1, 0, 3), 9999 - 9999 / 7);
    Check.told(x, "load easy 0;load steady 1;load hard 2;load long 3;load race 300;", 5);
    for (int kind = 1; kind < 5; kind++) Check.due("load", x.count(10 + kind), kind - 1);
    Check.due("load", x.count(15), 300);
    Check.told(x, "load race 300;", 1);
    Check.told(x, "camp 0 0;camp 69 69;camp 3 20;", 3);
    Check.due("camp", x.camped(2, false), 3);
    Check.due("camp", x.camped(2, true), 20);
    Check.told(x, "set 0 2;set 1 99;set 2 9;set 3 1;set 4 400;set 5 14;set 6 0;set 7 300;", 8);
    int[] set = {2, 99, 9, 1, 400, 14, 0, 300};
    for (int s = 0; s < 8; s++) Check.due("setting " + s, x.count(20 + s), set[s]);
    Check.told(x, "plan 1 0;", 1);
    Check.told(x, "plan 0 0 rest easy steady hard long race;plan 1 69 race;", 2);
    kinds(x, 0, 0, "0123450");
    kinds(x, 1, 68, "05");
    Check.due("to undo", x.count(3), 7);
    Check.told(x, "group 5 5;plan 2 1 hard;", 2);
    kinds(x, 2, 0, "030");
    Check.told(x, "plan 0 1 rest rest;", 1);
    kinds(x, 0, 0, "0003450");
  }

  private static void tokens() {
    TrainingBook x = new TrainingBook();
    Check.told(x, "group1 1;plan0 0 2easy again2(hard)race;", 2);
    kinds(x, 0, 0, "113350");
    Check.told(x, "\n group\n0001 \n 9 ;\n\n ", 1);
    Check.told(x, "  ", 0);
    Check.faulty(x, "groupx 1 1;", 1, 0);
    Check.faulty(x, "Group 1 1;", 1, 0);
    Check.faulty(x, "gro up 1 1;", 1, 0);
    Check.faulty(x, "plan 0 0 easyeasy;", 1, 9);
    Check.faulty(x, "plan 0 0 easya;", 1, 9);
    Check.faulty(x, "plan 0 0 easyz;", 1, 9);
    Check.faulty(x, "plan 0 0 zeasy;", 1, 9);
    Check.faulty(x, "plan 0 0 oasy;", 1, 9);
    Check.faulty(x, "plan 0 0 eass;", 1, 9);
    Check.faulty(x, "plan 0 0 eas;", 1, 9);
    Check.faulty(x, "crop 1 1;", 1, 0);
    Check.faulty(x, "group 1 9/;", 1, 9);
    Check.faulty(x, "group 1 9:;", 1, 9);
    Check.faulty(x, "plan 0 0 easy2again(easy);", 1, 14);
    Check.faulty(x, "group 1\t1;", 1, 7);
    Check.faulty(x, "group 1\r1;", 1, 7);
    Check.faulty(x, "group -1 1;", 1, 6);
    Check.faulty(x, "group 1 1" + (char) 187 + ";", 1, 9);
    Check.faulty(x, "group 1 1" + (char) 0, 1, 9);
  }

  // What stood behind the end of the tape is no part of its last TOKEN.
  private static void cutTokens() {
    TrainingBook x = new TrainingBook();
    Check.put(x, "group 1 99999 easyeasy");
    Check.due("end", x.end(12), true);
    Check.due("tell", x.tell(), -1);
    Check.due("fault", x.fault(), 1 + 8 * 12);
    Check.put(x, "load easyx");
    Check.due("end", x.end(9), true);
    Check.due("tell", x.tell(), -1);
    Check.due("fault", x.fault(), 1 + 8 * 9);
  }

  private static void items() {
    TrainingBook x = new TrainingBook();
    x.group(0, 0);
    Check.told(x, "plan 0 0 70 easy;", 1);
    kinds(x, 0, 0, "1".repeat(70));
    Check.told(x, "plan 0 0 again 70(rest);", 1);
    kinds(x, 0, 0, "0".repeat(70));
    Check.told(x, "plan 0 2 again 2(easy again 3(hard rest) 2 race) long;", 1);
    kinds(x, 0, 0, "00" + "130303055" + "130303055" + "40");
    x.plan(0, 0, 69, 0);
    Check.told(x, "plan 0 0 again 2(again 2(again 2(again 2(easy hard) rest) rest) rest) race;", 1);
    String d = "1313" + "0";
    d = d + d + "0";
    d = d + d + "0";
    kinds(x, 0, 0, d + d + "50");
    Check.told(x, "plan 0 0 again 1(easy) again 1(again 1(hard) again 1(hard));", 1);
    kinds(x, 0, 0, "133");
    Check.told(x, "plan 0 0 4 hard; plan 0 0 again 2(easy);", 2);
    kinds(x, 0, 0, "1133");
    Check.told(x, "plan 0 69 again 1(again 1(1 race));", 1);
    kinds(x, 0, 69, "5");
    Check.told(x, "plan 0 0 2 easy; plan 0 1 hard;", 2);
    kinds(x, 0, 0, "13");
  }

  private static void cantStand() {
    TrainingBook x = new TrainingBook();
    x.group(0, 0);
    Check.faulty(x, ";", 1, 0);
    Check.faulty(x, "5", 1, 0);
    Check.faulty(x, "12345", 1, 0);
    Check.faulty(x, "easy;", 1, 0);
    Check.faulty(x, "again 2(easy);", 1, 0);
    Check.faulty(x, "group", 1, 5);
    Check.faulty(x, "group  ", 1, 7);
    Check.faulty(x, "group ;", 1, 6);
    Check.faulty(x, "group 1", 1, 7);
    Check.faulty(x, "group 1 1", 1, 9);
    Check.faulty(x, "group 1 1 \n", 1, 11);
    Check.faulty(x, "group 1 1 1;", 1, 10);
    Check.faulty(x, "group 1 1;;", 1, 10);
    Check.faulty(x, "load rest 0;", 1, 5);
    Check.faulty(x, "load 1 0;", 1, 5);
    Check.faulty(x, "load group 0;", 1, 5);
    Check.faulty(x, "load easy hard;", 1, 10);
    Check.faulty(x, "load easy;", 1, 9);
    Check.faulty(x, "camp 1;", 1, 6);
    Check.faulty(x, "camp 1 2 3;", 1, 9);
    Check.faulty(x, "set 1;", 1, 5);
    Check.faulty(x, "set easy 1;", 1, 4);
    Check.faulty(x, "plan 0;", 1, 6);
    Check.faulty(x, "plan 0 0", 1, 8);
    Check.faulty(x, "plan 0 0 easy", 1, 13);
    Check.faulty(x, "plan 0 0 2;", 1, 10);
    Check.faulty(x, "plan 0 0 2 2 easy;", 1, 11);
    Check.faulty(x, "plan 0 0 2 again 2(easy);", 1, 11);
    String[] words = {"group", "load", "camp", "set", "plan", "blue"};
    for (String word : words) {
      Check.faulty(x, "plan 0 0 " + word + ";", 1, 9);
      Check.faulty(x, "plan 0 0 2 " + word + ";", 1, 11);
      Check.faulty(x, "load " + word + " 5;", 1, 5);
    }
    Check.faulty(x, "plan 0 0 (easy);", 1, 9);
    Check.faulty(x, "plan 0 0 easy);", 1, 13);
    Check.faulty(x, "plan 0 0 again(easy);", 1, 14);
    Check.faulty(x, "plan 0 0 again 2 easy;", 1, 17);
    Check.faulty(x, "plan 0 0 again 2();", 1, 17);
    Check.faulty(x, "plan 0 0 again 2(;", 1, 17);
    Check.faulty(x, "plan 0 0 again 2(2);", 1, 18);
    Check.faulty(x, "plan 0 0 again 2(easy;", 1, 21);
    Check.faulty(x, "plan 0 0 again 2(easy", 1, 21);
    Check.faulty(x, "plan 0 0 easy again 2(again 2());", 1, 30);
    Check.faulty(x, "plan 0 0 again 2((easy));", 1, 17);
    Check.faulty(x, "plan 0 0 again 2)easy);", 1, 16);
    Check.faulty(x, "plan 0 0 again 2(easy(;", 1, 21);
    Check.faulty(x, "plan 0 0 again 2;easy);", 1, 16);
    Check.faulty(x, "plan 0 0 again 2(easy)) ;", 1, 22);
  }

  private static void cantBe() {
    TrainingBook x = new TrainingBook();
    Check.faulty(x, "plan 0 0;", 2, 5);
    Check.faulty(x, "group 10000 1;", 2, 6);
    Check.faulty(x, "group 1 00001;", 2, 8);
    Check.faulty(x, "group 1 99999999999999999999;", 2, 8);
    Check.faulty(x, "load easy 301;", 2, 10);
    Check.faulty(x, "load easy 00000;", 2, 10);
    Check.faulty(x, "camp 70 70;", 2, 5);
    Check.faulty(x, "camp 0 70;", 2, 7);
    Check.faulty(x, "camp 5 4;", 2, 7);
    Check.faulty(x, "set 8 1;", 2, 4);
    int[] below = {1, 1, 0, 0, 99, 0, -1, 99};
    int[] above = {100, 100, 10, 10, 401, 15, 2101, 301};
    for (int s = 0; s < 8; s++) {
      if (below[s] >= 0) Check.faulty(x, "set " + s + " " + below[s] + ";", 2, 6);
      Check.faulty(x, "set " + s + " " + above[s] + ";", 2, 6);
    }
    Check.faulty(x, "group 1 1;plan 1 0;", 2, 15);
    Check.faulty(x, "group 1 1;plan 0 70;", 2, 17);
    Check.faulty(x, "group 1 1;plan 0 0 0 easy;", 2, 19);
    Check.faulty(x, "group 1 1;plan 0 0 71 easy;", 2, 19);
    Check.faulty(x, "group 1 1;plan 0 0 again 0(easy);", 2, 25);
    Check.faulty(x, "group 1 1;plan 0 0 again 71(easy);", 2, 25);
    Check.faulty(x, "group 1 1;plan 0 0 again 00001(easy);", 2, 25);
  }

  private static void tooMany() {
    TrainingBook x = new TrainingBook();
    Check.faulty(x, "group 1 1;".repeat(7), 3, 60);
    Check.due("none came", x.count(0), 0);
    Check.told(x, "group 1 1;".repeat(6), 6);
    Check.faulty(x, " group", 3, 1);
    Check.faulty(x, "group 10000 1;", 3, 0);
    Check.faulty(x, "camp 1 1;".repeat(5), 3, 36);
    Check.told(x, "camp 1 1;".repeat(4), 4);
    Check.faulty(x, "set 0 9;camp x", 3, 8);
    Check.faulty(x, "plan 0 0 again 1(again 1(again 1(again 1(again", 3, 41);
    Check.faulty(x, "plan 0 0 again 1(again 1(again 1(again 1(easy again 1(easy)))));", 3, 46);
    Check.told(x, "plan 0 0 again 1(again 1(again 1(again 1(easy)again 1(easy))));", 1);
    Check.faulty(x, "plan 0 0 again 1(again 1(again 1(again 1(2 again", 1, 43);
  }

  private static void beyond() {
    TrainingBook x = new TrainingBook();
    x.group(0, 0);
    Check.faulty(x, "plan 0 69 2 easy;", 4, 12);
    Check.faulty(x, "plan 0 1 70 easy;", 4, 12);
    Check.faulty(x, "plan 0 0 70 easy rest;", 4, 17);
    Check.faulty(x, "plan 0 69 easy again 1(easy);", 4, 23);
    Check.faulty(x, "plan 0 68 again 2(easy rest easy);", 4, 28);
    Check.faulty(x, "plan 0 66 again 2(easy rest easy);", 4, 32);
    Check.told(x, "plan 0 64 again 2(easy rest easy);", 1);
    Check.faulty(x, "plan 0 65 again 2(easy rest easy);", 4, 32);
    Check.faulty(x, "plan 0 0 again 2(again 35(easy) easy);", 4, 36);
    Check.told(x, "plan 0 0 again 2(again 34(easy) easy);", 1);
    Check.faulty(x, "plan 0 0 again 2(again 70(easy) easy);", 4, 32);
    Check.faulty(x, "plan 0 0 again 70(70 easy);", 4, 25);
    Check.faulty(x, "plan 0 0 again 70(again 70(70 easy));", 4, 34);
    Check.faulty(x, "plan 0 0 70 rest 70 blue;", 1, 20);
    Check.faulty(x, "plan 0 0 70 rest 71 rest;", 2, 17);
    Check.told(x, "plan 0 0 70 rest;", 1);
    Check.faulty(x, "plan 0 0 70 rest again 2();", 1, 25);
  }

  private static void firstAndLeast() {
    TrainingBook x = new TrainingBook();
    x.group(0, 0);
    Check.faulty(x, "set 9 99999; x", 2, 4);
    Check.faulty(x, "camp 70 x", 2, 5);
    Check.faulty(x, "set 0 50 0;", 1, 9);
    Check.faulty(x, "plan 0 69 2 easy easy x", 4, 12);
    Check.faulty(x, "plan 5 99 x", 2, 5);
    Check.due("fault once more", x.fault(), 42);
    Check.due("tell of none", x.tell(), 0);
    Check.due("0 without", x.fault(), 0);
  }

  private static void faultsLeaveAllElse() {
    TrainingBook x = new TrainingBook();
    Check.told(x, "group 100 50;camp 1 2;plan 0 0 7 hard;", 3);
    int form = x.form(0, 30);
    Check.faulty(x, "group 1 1;camp 5 9;load hard 10;set 0 9;plan 0 0 7 race;plan 1 0 easy; camp 2 1;", 2, 78);
    Check.due("form", x.form(0, 30), form);
    Check.due("groups", x.count(0), 1);
    Check.due("camps", x.count(1), 1);
    Check.due("load", x.count(13), 90);
    Check.due("setting", x.count(20), 42);
    Check.due("to undo", x.count(3), 1);
    Check.due("kind", x.day(0, 0, 0), 3);
    Check.due("tape", x.count(2), 0);
  }

  private static void kinds(TrainingBook x, int group, int from, String want) {
    for (int i = 0; i < want.length(); i++) {
      Check.due("kind of " + group + " on " + (from + i), x.day(group, from + i, 0), want.charAt(i) - '0');
    }
  }
}
