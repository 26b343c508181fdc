/** Counts what the tests of the sentences find wrong; each sentence has a check, and each word of the document a sentence. */
final class Tally {
    private final Document document;
    private String sentence = "";
    private int sentences;
    private int made;
    private int madeBefore;
    private int wrong;

    Tally(Document document) {
        this.document = document;
    }

    void begin(String section, String... words) {
        needSomeCheck();
        sentence = section + ": \"" + String.join(" .. ", words) + "\"";
        sentences++;
        madeBefore = made;
        for (String some : words) {
            if (!document.quote(section, some)) {
                tell("these words do not stand in the document: " + some);
            }
        }
    }

    private void needSomeCheck() {
        if (sentences > 0 && made == madeBefore) {
            tell("nothing was checked");
        }
    }

    void check(boolean good, String otherwise) {
        made++;
        if (!good) {
            tell(otherwise);
        }
    }

    private void tell(String what) {
        wrong++;
        System.out.println("EdgesTest: " + sentence + ": " + what);
    }

    void end() {
        needSomeCheck();
        for (String words : document.unquoted()) {
            sentence = words;
            tell("no test names these words");
        }
        System.out.println("EdgesTest: " + sentences + " sentences, " + made + " checks, " + wrong + " wrong");
        if (wrong != 0) {
            System.exit(1);
        }
    }
}
