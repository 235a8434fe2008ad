import java.util.Arrays;
import java.util.HexFormat;

/** Counts the answers that are not the ones due, and tells them. */
final class Check {
    private int checked = 0;
    private int wrong = 0;

    void due(String what, long got, long want) {
        checked++;
        if (got != want) {
            wrong++;
            System.out.println(what + " answered " + got + ", due is " + want);
        }
    }

    void due(String what, byte[] got, byte[] want) {
        checked++;
        if (!Arrays.equals(got, want)) {
            wrong++;
            System.out.println(what + " left " + HexFormat.of().formatHex(got)
                    + ", due is " + HexFormat.of().formatHex(want));
        }
    }

    void due(String what, byte[] got, String wantHex) {
        due(what, got, Bytes.hex(wantHex));
    }

    boolean anyWrong() {
        return wrong > 0;
    }

    /** A test that checked nothing has proved nothing, so that fails too. */
    void end() {
        if (wrong > 0 || checked == 0) {
            System.out.println(wrong + " of " + checked + " answers are not as due");
            System.exit(1);
        }
    }
}
