/**
 * What a loom answers, as one text: all that can be asked of it, and then what some calls that change it answer.
 * These are some 380 calls, so that a loom made with few more stays under the 512 for which it is promised.
 */
final class Answers {
    interface Call {
        Object on(TapestryRuns loom);
    }

    private Answers() {
    }

    static String of(TapestryRuns loom) {
        StringBuilder text = new StringBuilder();
        tellPattern(loom, text);
        tellCloth(loom, text);
        tellLoom(loom, text);
        tellWhatWouldBe(loom, text);
        tellChanges(loom, text);
        return text.toString();
    }

    /** The answer as a text, or the name of the class of what was thrown. */
    static String to(Call call, TapestryRuns loom) {
        try {
            return String.valueOf(call.on(loom));
        } catch (RuntimeException thrown) {
            return thrown.getClass().getName();
        }
    }

    private static void tell(StringBuilder text, Object answer) {
        text.append(answer).append(' ');
    }

    private static void tellPattern(TapestryRuns loom, StringBuilder text) {
        text.append("shades ");
        for (int y = 0; y < 8; y++) {
            for (int x = 0; x < 12; x++) {
                tell(text, loom.shade(x, y));
            }
        }
        text.append("palette ").append(Patterns.palette(loom));
    }

    private static void tellCloth(TapestryRuns loom, StringBuilder text) {
        text.append(" cloth ");
        for (int nth = 0; nth < 96; nth++) {
            int cell = nth;
            tell(text, to(asked -> asked.cell(cell % 12, cell / 12), loom));
        }
        for (int row = 0; row < 8; row++) {
            int y = row;
            String knots = to(asked -> asked.knots(y), loom);
            tell(text, knots);
            String length = "";
            for (int nth = 0; nth <= 12 && !length.startsWith("java"); nth++) {
                int place = nth;
                length = to(asked -> asked.run(y, place, 1), loom);
                tell(text, length);
            }
        }
    }

    private static void tellLoom(TapestryRuns loom, StringBuilder text) {
        text.append("loom ").append(Patterns.counts(loom));
        for (int what = 0; what < 3; what++) {
            text.append(" thread ").append(Patterns.threads(loom, what));
        }
    }

    private static void tellWhatWouldBe(TapestryRuns loom, StringBuilder text) {
        text.append(" would ");
        for (int many = 2; many <= 6; many++) {
            for (int what = 0; what < 3; what++) {
                tell(text, loom.would(many, what));
            }
        }
        for (int knots = 0; knots <= 96; knots += 8) {
            tell(text, loom.advise(knots));
        }
        tell(text, loom.mean());
        tell(text, loom.digest());
    }

    private static void tellChanges(TapestryRuns loom, StringBuilder text) {
        text.append("changes ");
        tell(text, to(asked -> asked.weave(), loom));
        tell(text, loom.setColours(5));
        tell(text, loom.setCarry(1));
        tell(text, loom.setTurning(true));
        tell(text, loom.setPressing(true));
        tell(text, loom.set(4, 4, 77));
        tell(text, loom.row(3, 40, 15));
        tell(text, loom.like(7, 0));
        for (int colour = 0; colour < 6; colour++) {
            tell(text, loom.wind(colour, 99));
        }
        tell(text, to(asked -> asked.weave(), loom));
        tell(text, loom.digest());
    }
}
