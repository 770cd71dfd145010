/** Promise 2. */
public final class UnitTest {
    private static final Check CHECK = new Check("UnitTest");

    public static void main(String[] args) {
        everySign();
        refusedSignsAreNotCollected();
        atMostTwoHundred();
        CHECK.end();
    }

    private static void everySign() {
        CHECK.fresh();
        int[] refused = {-1, 0, 10, 31, 127, 128, 255, 256 + 97, 65536 + 97,
            Integer.MIN_VALUE, Integer.MAX_VALUE};
        for (int sign : refused) {
            CHECK.unit(sign, false);
        }
        for (int sign = 32; sign <= 126; sign++) {
            CHECK.unit(sign, true);
        }
        CHECK.actAlone(-1);
    }

    private static void refusedSignsAreNotCollected() {
        CHECK.fresh();
        for (char sign : "create t(a int)".toCharArray()) {
            CHECK.unit(sign, true);
            CHECK.unit(31, false);
            CHECK.unit(127, false);
        }
        CHECK.actAlone(0);
        CHECK.size(0, 0);
    }

    private static void atMostTwoHundred() {
        CHECK.fresh();
        String text = "create t(a int)";
        for (int n = 0; n < 200 - text.length(); n++) {
            CHECK.unit(' ', true);
        }
        for (char sign : text.toCharArray()) {
            CHECK.unit(sign, true);
        }
        CHECK.unit(')', false);
        CHECK.unit(' ', false);
        CHECK.actAlone(0);
        // What was collected is gone: there is room again, and nothing is left of it.
        for (int n = 0; n < 200; n++) {
            CHECK.unit(' ', true);
        }
        CHECK.unit('a', false);
        CHECK.actAlone(-1);
        CHECK.act("insert t(1)", 1);
    }
}
