/** Counts and prints the answers that are not the ones that are due. */
final class Check {
    private final String name;
    private int wrong;

    Check(String name) {
        this.name = name;
    }

    void due(String call, long got, long want) {
        if (got != want) {
            wrong++;
            System.out.println(name + ": " + call + " answered " + got + ", due is " + want);
        }
    }

    void that(String what, boolean holds) {
        if (!holds) {
            wrong++;
            System.out.println(name + ": " + what);
        }
    }

    boolean isClean() {
        return wrong == 0;
    }

    void end() {
        if (wrong != 0) {
            System.out.println(name + ": " + wrong + " wrong");
            System.exit(1);
        }
    }
}
