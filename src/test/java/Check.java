/** What the project's tests share: a scribe with shorter calls, and a count of the answers that are not due. */
final class Check {
    final Scribe scribe = new Scribe();
    private static int wrong = 0;

    /** Compares an answer with the one that is due; prints it if it is another. */
    static void due(String what, long got, long want) {
        if (got != want) {
            wrong++;
            System.out.println(what + " answered " + got + ", due is " + want);
        }
    }

    static void due(String what, boolean got, boolean want) {
        due(what, got ? 1 : 0, want ? 1 : 0);
    }

    static void due(String what, String got, String want) {
        if (!got.equals(want)) {
            wrong++;
            System.out.println(what + " answered " + got + ", due is " + want);
        }
    }

    /** Ends the test: with exit code 1 if an answer was not the one that was due. */
    static void end() {
        if (wrong != 0) {
            System.out.println(wrong + " answers are not as due");
            System.exit(1);
        }
    }

    /** A scribe with these classes. */
    static Check of(String classes) {
        Check check = new Check();
        check.collect(classes);
        if (check.scribe.classes() < 1) {
            due("classes() of " + classes, 0, 1);
        }
        return check;
    }

    void collect(String signs) {
        for (int i = 0; i < signs.length(); i++) {
            if (!scribe.unit(signs.charAt(i))) {
                due("unit " + i + " of " + signs, false, true);
            }
        }
    }

    int tellClasses(String signs) {
        collect(signs);
        return scribe.classes();
    }

    boolean putText(int object, int field, String signs) {
        collect(signs);
        return scribe.text(object, field);
    }

    int readText(String signs) {
        collect(signs);
        return scribe.read();
    }

    /** What was written. */
    String written() {
        return State.written(scribe);
    }

    /** What a writing gives: its signs, or its answer if it is none of a text. */
    String write(int root, int mode) {
        int answer = scribe.write(root, mode);
        if (answer < 0) {
            return Integer.toString(answer);
        }
        String text = written();
        due("the answer of write", answer, text.length());
        return text;
    }

    /** A text of a field. */
    String textOf(int heap, int object, int field) {
        return State.text(scribe, heap, object, field);
    }
}
