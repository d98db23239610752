import java.io.IOException;
import java.nio.file.Files;
import java.nio.file.Path;

/** What all tests of the project share: comparing answers, and putting texts on the tape. */
final class Check {
    private static int wrong;
    private static int looked;
    private static String document;
    private static String quoted = "";

    private Check() {
    }

    static void due(String what, long got, long want) {
        looked++;
        if (got != want) {
            wrong++;
            if (wrong <= 50) {
                System.out.println(quoted + what + ": answered " + got + ", due is " + want);
            }
        }
    }

    /** The sentence by which the next answers are due: it must stand in the document, word by word. */
    static void sentence(String sentence) {
        quoted = "";
        due("the document says \"" + sentence + "\"", document().contains(sentence) ? 1 : 0, 1);
        quoted = "\"" + sentence + "\": ";
    }

    private static String document() {
        if (document == null) {
            try {
                document = Files.readString(Path.of(System.getProperty("listenwells.document", "../shared/DOC.md")));
            } catch (IOException e) {
                throw new IllegalStateException("the document can't be read", e);
            }
        }
        return document;
    }

    /** Ends the program: with exit code 1 if an answer was not the one that was due. */
    static void end(String test) {
        System.out.println(test + ": " + looked + " answers, " + wrong + " wrong");
        if (wrong != 0 || looked == 0) {
            System.exit(1);
        }
    }

    /** Puts just these bytes on an empty tape. */
    static void tape(ListenWells x, String text) {
        x.end(0);
        for (int i = 0; i < text.length(); i += 20) {
            x.feed(four(text, i), four(text, i + 4), four(text, i + 8), four(text, i + 12), four(text, i + 16));
        }
        x.end(text.length());
    }

    private static int four(String text, int from) {
        int number = 0;
        for (int i = from; i < from + 4; i++) {
            number = number << 8 | (i < text.length() ? text.charAt(i) & 255 : ' ');
        }
        return number;
    }

    static int law(ListenWells x, String text) {
        tape(x, text);
        return x.law();
    }

    static int orders(ListenWells x, String text) {
        tape(x, text);
        return x.orders();
    }

    /** A text that can't be read: -6, with its FAULT at this place. */
    static void faultyLaw(String text, int place) {
        ListenWells x = new ListenWells();
        due("law '" + text + "'", law(x, text), -6);
        due("fault of law '" + text + "'", x.fault(), place);
        due("laws behind '" + text + "'", x.count(6), 0);
        due("tape behind '" + text + "'", x.count(8), 0);
    }

    static void faultyOrders(String text, int place) {
        ListenWells x = new ListenWells();
        due("orders '" + text + "'", orders(x, text), -6);
        due("fault of orders '" + text + "'", x.fault(), place);
        due("tape behind '" + text + "'", x.count(8), 0);
    }

    static void goodLaw(String text) {
        ListenWells x = new ListenWells();
        due("law '" + text + "'", law(x, text), 0);
        due("fault of law '" + text + "'", x.fault(), -1);
    }

    /** What a SUM comes to in ORDERS on a new object with a LISTENER in COLUMN 0; -3 BROKEN or not 0 .. 7. */
    static int column(String sum) {
        ListenWells x = new ListenWells();
        x.listener(0, 0);
        int run = orders(x, "lie 0 in " + sum);
        return run == 1 ? x.who(0, 0) : run;
    }
}
