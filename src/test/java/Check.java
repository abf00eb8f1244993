/** Compares answers with those that are due, and ends a test with exit code 1 if one was wrong. */
final class Check {
    private static int wrong = 0;
    private static int checked = 0;
    private static int checkedBefore = 0;
    private static String sentence = "";

    private Check() {
    }

    /** Starts the test of a sentence of the document, which is told with each wrong answer of it. */
    static void sentence(String section, String quote) {
        endSentence();
        sentence = section + ", '" + quote + "': ";
        due("times that the document has it", Document.quote(section, quote), 1);
        checkedBefore = checked;
    }

    private static void endSentence() {
        if (!sentence.isEmpty()) {
            due("is tested at all", checked > checkedBefore ? 1 : 0, 1);
        }
    }

    static void due(String call, long answer, long due) {
        checked++;
        if (answer != due) {
            wrong++;
            System.out.println(sentence + call + " answered " + answer + ", due is " + due);
        }
    }

    /** Types each character, behind an emptied text. */
    static void typeText(LampRacks racks, String text) {
        racks.clearText();
        for (int index = 0; index < text.length(); index++) {
            racks.type(text.charAt(index));
        }
    }

    static int performText(LampRacks racks, String text) {
        typeText(racks, text);
        return racks.perform();
    }

    static void end() {
        endSentence();
        if (wrong > 0) {
            System.out.println(wrong + " of " + checked + " answers are wrong");
            System.exit(1);
        }
    }
}
