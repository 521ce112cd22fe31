/** What the tests share: counting wrong answers, typing a text, one line a wrong answer. */
final class Check {
    private int wrong = 0;
    private int asked = 0;
    private int sentences = 0;
    private int askedAhead = 0;
    private String sentence = "";

    /** The sentence of the document (behind its promise's number) that the next answers are held against. */
    void sentence(String words) {
        needAnswers();
        sentence = words + " -- ";
        askedAhead = asked;
        sentences++;
    }

    private void needAnswers() {
        if (sentences > 0 && asked == askedAhead) {
            wrong++;
            System.out.println(sentence + "nothing was asked");
        }
    }

    void due(String call, long got, long want) {
        asked++;
        if (got != want) {
            wrong++;
            System.out.println(sentence + call + " answered " + got + ", due is " + want);
        }
    }

    void holds(String what, boolean is) {
        due(what, is ? 1 : 0, 1);
    }

    /** All of these answers are the same one. */
    void every(String what, int want, int... got) {
        for (int i = 0; i < got.length; i++) {
            due(what + ", call " + i, got[i], want);
        }
    }

    /** These answers, in their order. */
    void row(String what, int[] got, int... want) {
        due(what + ", how many", got.length, want.length);
        for (int i = 0; i < Math.min(got.length, want.length); i++) {
            due(what + ", call " + i, got[i], want[i]);
        }
    }

    void end(String name) {
        needAnswers();
        System.out.println(name + ": " + (sentences > 0 ? sentences + " sentences, " : "") + asked + " asked, " + wrong + " wrong");
        if (wrong != 0 || asked == 0) {
            System.exit(1);
        }
    }

    static int[] of(int... answers) {
        return answers;
    }

    /** Types a text of bytes 32 .. 126 behind the tape, eight at a time. */
    static void type(MachineBench bench, String text) {
        for (int at = 0; at < text.length(); at += 8) {
            String some = text.substring(at, Math.min(text.length(), at + 8));
            if (bench.type(word(some), some.length()) < 0) {
                throw new IllegalStateException("the tape does not take: " + some);
            }
        }
    }

    static long word(String some) {
        long w = 0;
        for (int i = 0; i < some.length(); i++) {
            w = w << 8 | some.charAt(i);
        }
        return w;
    }

    static int rules(MachineBench bench, int machine, String text) {
        type(bench, text);
        return bench.rules(machine);
    }

    static int duty(MachineBench bench, String text) {
        type(bench, text);
        return bench.duty();
    }

    static MachineBench machine(String text) {
        MachineBench bench = new MachineBench();
        if (rules(bench, 0, text) < 1) {
            throw new IllegalStateException("no rules: " + text);
        }
        return bench;
    }
}
