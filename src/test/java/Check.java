/** Compares answers with those that are due, prints the wrong ones, and ends the test. */
final class Check {
    private int compared = 0;
    private int wrong = 0;
    private String sentence = "";

    /** Names the document's sentence that the comparisons from here on hold, for what is printed. */
    void sentence(String place, String words) {
        sentence = place + " \"" + words + "\": ";
    }

    void due(long due, long answered, String call) {
        compare(due == answered, call + " answered " + answered + ", due is " + due);
    }

    void same(String due, String answered, String call) {
        compare(due.equals(answered), call + " answered [" + answered + "], due is [" + due + "]");
    }

    private void compare(boolean right, String otherwise) {
        compared++;
        if (!right) {
            wrong++;
            System.out.println(sentence + otherwise);
        }
    }

    void thrown(Class<? extends RuntimeException> due, Runnable call, String name) {
        Class<?> thrown = null;
        try {
            call.run();
        } catch (RuntimeException e) {
            thrown = e.getClass();
        }
        compare(thrown == due, name + " threw " + thrown + ", due is " + due);
    }

    /** Asks for an answer and compares its length and every octet, and what stands around it. */
    void answer(EmissionRows rows, int mode, int id, int... due) {
        String name = "answer(" + mode + ", " + id + ")";
        due(due.length, rows.answer(mode, id), name);
        octets(rows, name, due);
    }

    void octets(EmissionRows rows, String name, int... due) {
        int sum = 0;
        for (int i = 0; i < due.length; i++) {
            sum += due[i];
            due((byte) due[i], octetOrElse(rows, i), "at(" + i + ") after " + name);
        }
        for (int i : new int[] {-1, due.length, Integer.MIN_VALUE, Integer.MAX_VALUE}) {
            thrown(IndexOutOfBoundsException.class, () -> rows.at(i), "at(" + i + ") after " + name);
        }
        due(sum, rows.sum(), "sum() after " + name);
    }

    private static long octetOrElse(EmissionRows rows, int i) {
        try {
            return rows.at(i);
        } catch (IndexOutOfBoundsException e) {
            return Long.MIN_VALUE;
        }
    }

    void end() {
        System.out.println(compared + " answers compared, " + wrong + " wrong");
        if (wrong != 0 || compared == 0) {
            System.exit(1);
        }
    }
}
