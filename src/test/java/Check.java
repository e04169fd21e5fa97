import java.nio.charset.StandardCharsets;
import java.util.Arrays;
import java.util.NoSuchElementException;

/** What the tests share: comparing answers, telling texts, ending with the right exit code. */
final class Check {
  private static int checked = 0;
  private static int wrong = 0;
  private static String sentence = "";

  private Check() { }

  static void due(String call, long got, long want) {
    checked++;
    if (got != want) {
      wrong++;
      if (wrong <= 40) System.out.println(sentence + call + " answered " + got + ", due is " + want);
    }
  }

  /** The test of one sentence (or part of one) of the document, which is quoted; it must look at an answer at least. */
  static void edge(String quoted, Runnable test) {
    int before = checked;
    sentence = "\"" + quoted + "\": ";
    try {
      test.run();
      due("its test looks at an answer", checked > before, true);
    } catch (RuntimeException e) {
      due("a call threw " + e + ", so that", 1, 0);
    }
    sentence = "";
  }

  static void due(String call, boolean got, boolean want) {
    due(call, got ? 1L : 0L, want ? 1L : 0L);
  }

  static int wrongSoFar() {
    return wrong;
  }

  static void finish() {
    System.out.println(wrong == 0 ? checked + " answers are as due" : wrong + " of " + checked + " answers are not as due");
    if (wrong != 0) System.exit(1);
  }

  /** Puts a text on an empty tape: fed in twenties, its end cut. */
  static void put(TrainingBook x, String text) {
    byte[] bytes = text.getBytes(StandardCharsets.ISO_8859_1);
    int fed = 0;
    for (int at = 0; at < bytes.length; at += 20) {
      byte[] part = Arrays.copyOf(Arrays.copyOfRange(bytes, at, Math.min(at + 20, bytes.length)), 20);
      fed += 20;
      due("feed of " + text, x.feed(four(part, 0), four(part, 4), four(part, 8), four(part, 12), four(part, 16)), fed);
    }
    due("end of " + text, x.end(bytes.length), true);
  }

  static int four(byte[] b, int at) {
    return (b[at] & 255) << 24 | (b[at + 1] & 255) << 16 | (b[at + 2] & 255) << 8 | b[at + 3] & 255;
  }

  static int tell(TrainingBook x, String text) {
    put(x, text);
    return x.tell();
  }

  /** A text that is told without a fault. */
  static void told(TrainingBook x, String text, int statements) {
    due("tell of " + text, tell(x, text), statements);
    due("fault of " + text, x.fault(), 0);
  }

  /** A text that has a fault of a kind at a place. */
  static void faulty(TrainingBook x, String text, int kind, int place) {
    due("tell of " + text, tell(x, text), TrainingBook.NONE);
    due("fault of " + text, x.fault(), kind + 8L * place);
  }

  static boolean throwsNoSuch(TrainingBook x, int camp, boolean last) {
    try {
      x.camped(camp, last);
      return false;
    } catch (NoSuchElementException e) {
      return true;
    }
  }
}
