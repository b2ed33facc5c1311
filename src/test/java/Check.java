/** What every test here uses: it counts, prints what is not as due, and ends the program. */
final class Check {
    private int checks = 0;
    private int wrong = 0;
    private String promise = "";

    void promise(int number, String name) {
        promise = "promise " + number + " (" + name + ")";
    }

    void due(String call, long want, long got) {
        checks++;
        if (want != got) {
            wrong++;
            System.out.println(promise + ": " + call + " answered " + got + ", due is " + want);
        }
    }

    void end() {
        System.out.println("  " + checks + " checks, " + wrong + " not as due");
        if (wrong != 0 || checks == 0) {
            System.exit(1);
        }
    }

    static void type(LychWeights x, String text) {
        for (int i = 0; i < text.length(); i++) {
            x.type(text.charAt(i));
        }
    }

    static LychWeights read(String text) {
        LychWeights x = new LychWeights();
        type(x, text);
        int items = x.gate();
        if (items < 0) {
            throw new IllegalStateException("not to be read: " + text + " : " + items);
        }
        return x;
    }
}
