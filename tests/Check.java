import java.util.function.IntUnaryOperator;

/** Counts answers that are not the ones that are due, and ends a test by them. */
final class Check {
  private static int calls = 0;
  private static int wrong = 0;

  interface Call {
    int answer();
  }

  private Check() {}

  static void due(String what, long want, long got) {
    calls++;
    if (got != want) {
      tellWrong(what + " answered " + got + ", due is " + want);
    }
  }

  static void isTrue(String what, boolean holds) {
    calls++;
    if (!holds) {
      tellWrong(what + " does not hold");
    }
  }

  /** The call throws just this class of exception, no other one, nor one below it. */
  static void throwing(String what, Class<?> want, Call call) {
    calls++;
    try {
      tellWrong(what + " answered " + call.answer() + ", due is " + want.getSimpleName());
    } catch (RuntimeException e) {
      if (e.getClass() != want) {
        tellWrong(what + " threw " + e.getClass().getName() + ", due is " + want.getSimpleName());
      }
    }
  }

  static void outside(String what, Call call) {
    throwing(what, IndexOutOfBoundsException.class, call);
  }

  /** Both ends of low .. high answer; what is one outside them, or far outside, is refused. */
  static void range(String what, int low, int high, Class<?> refusal, IntUnaryOperator call) {
    for (int i : new int[] {low, high}) {
      calls++;
      try {
        call.applyAsInt(i);
      } catch (RuntimeException e) {
        tellWrong(what + " " + i + " threw " + e.getClass().getName());
      }
    }
    for (int i : new int[] {low - 1, high + 1, Integer.MIN_VALUE, Integer.MAX_VALUE}) {
      throwing(what + " " + i, refusal, () -> call.applyAsInt(i));
    }
  }

  static void indexes(String what, int low, int high, IntUnaryOperator call) {
    range(what, low, high, IndexOutOfBoundsException.class, call);
  }

  static void end(String test) {
    System.out.println(test + ": " + calls + " answers, " + wrong + " not as due");
    if (wrong != 0 || calls == 0) {
      System.exit(1);
    }
  }

  private static void tellWrong(String text) {
    wrong++;
    if (wrong <= 40) {
      System.out.println(text);
    }
  }
}
