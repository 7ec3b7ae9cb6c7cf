/** Towns that several tests tell, and how a text is told. */
final class Towns {
    static final String SQUARE = "p5;r0 1 8;r1 4 9;r0 2 5;r2 3 4;r3 4 6;r1 3 2;s0 1;s2 3;g0 4;n3;l2;";
    static final String LOOP = "p5;r0 1 1;r1 2 1;r1 3 1;r3 4 1;r3 4 1;s0 2;s2 3;s3 4;s4 2;s2 1;n20;g0 2;";
    static final String TWELVE = "r0 1 1;".repeat(12);
    /** Seven roads in a row, each of them as long as a road can be, each behind a turn that is as dear as it can be. */
    static final String FAR = "p8;r0 1 60;r1 2 60;r2 3 60;r3 4 60;r4 5 60;r5 6 60;r6 7 60;g0 7;n20;l9;";

    private Towns() {
    }

    static void add(TurnVoice x, String text) {
        for (int i = 0; i < text.length(); i++) {
            x.type(text.charAt(i));
        }
    }

    static TurnVoice typed(String text) {
        TurnVoice x = new TurnVoice();
        add(x, text);
        return x;
    }

    static TurnVoice told(String text) {
        TurnVoice x = typed(text);
        int items = x.town();
        if (items < 0) {
            throw new IllegalStateException("town() of " + text + " answered " + items);
        }
        return x;
    }
}
