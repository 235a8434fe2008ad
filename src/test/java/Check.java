import java.util.Arrays;
import java.util.HexFormat;

/** Counts the answers that are not the ones due, and tells them with the document's words that they break. */
final class Check {
    private String words = "";
    private int checkedOfWords = 0;
    private int wrong = 0;

    /** What follows is the test of these words of the document. */
    void words(String next) {
        if (!words.isEmpty()) {
            endWords();
        }
        words = next;
    }

    void due(String what, long got, long want) {
        checkedOfWords++;
        if (got != want) {
            tell(what + " answered " + got + ", due is " + want);
        }
    }

    void due(String what, byte[] got, byte[] want) {
        checkedOfWords++;
        if (!Arrays.equals(got, want)) {
            tell(what + " left " + HexFormat.of().formatHex(got)
                    + ", due is " + HexFormat.of().formatHex(want));
        }
    }

    void due(String what, byte[] got, String wantHex) {
        due(what, got, Bytes.hex(wantHex));
    }

    boolean anyWrong() {
        return wrong > 0;
    }

    void end() {
        endWords();
        if (wrong > 0) {
            System.out.println(wrong + " answers are not as due");
            System.exit(1);
        }
    }

    /** A test that checked nothing has proved nothing, so that is wrong too. */
    private void endWords() {
        if (checkedOfWords == 0) {
            tell("nothing was checked");
        }
        checkedOfWords = 0;
    }

    private void tell(String text) {
        wrong++;
        System.out.println("\"" + words + "\": " + text);
    }
}
