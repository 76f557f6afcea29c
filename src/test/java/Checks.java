/** Counts and prints the answers that are not as due. */
final class Checks {
  private int wrong = 0;
  private int all = 0;
  private String about = "";

  void about(String what) {
    about = what;
  }

  void due(String call, long got, long want) {
    all++;
    if (got != want) {
      wrong++;
      if (wrong <= 50) {
        System.out.println(about + ": " + call + " answered " + got + ", due is " + want);
      }
    }
  }

  void holds(String what, boolean is) {
    due(what, is ? 1 : 0, 1);
  }

  void end() {
    System.out.println(all + " checks, " + wrong + " of them wrong");
    if (wrong != 0) {
      System.exit(1);
    }
  }
}
