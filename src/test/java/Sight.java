/** All that can be seen of an object, as one text: home, residents, spots, sheets, THE TAPE and the image. */
final class Sight {
    private final SundayVisits x;
    private final StringBuilder seen = new StringBuilder();

    private Sight(SundayVisits x) {
        this.x = x;
    }

    /** The object is used up by it: its sheets come onto THE LIST, its TAPE is read, its image comes back. */
    static String of(SundayVisits x) {
        Sight s = new Sight(x);
        s.home();
        s.sheets();
        s.tapeAndImage();
        return s.seen.toString();
    }

    private void tell(String what, long answer) {
        seen.append(what).append(' ').append(answer).append('\n');
    }

    private void home() {
        for (int what = 0; what < 4; what++) {
            tell("home", x.home(what));
        }
        for (int i = 0; i < 6; i++) {
            tell("visits", x.visits(i));
        }
        for (int what = 0; what < 8; what++) {
            tell("count", x.count(what));
        }
        for (int r = 0; r < x.count(1); r++) {
            for (int what = 0; what < 5; what++) {
                tell("of " + r, x.of(r, what));
            }
        }
        for (int spot = 0; spot < 10; spot++) {
            tell("spot " + spot, x.as(spot, 0));
        }
    }

    private void sheets() {
        for (int s = 0; s < 4; s++) {
            tell("judge " + s, x.judge(s));
            tell("fits " + s, x.fits(s, 0));
            tell("load " + s, x.load(s));
            for (int i = 0; i < 6; i++) {
                tell("number", x.visits(i));
            }
            for (int t = 0; t < s; t++) {
                tell("as many bits", x.copy(s, 0, t, 0, 0));
            }
            for (int i = 0; i < 8; i++) {
                tell("write", x.write(s, i, 0));
            }
        }
    }

    private void tapeAndImage() {
        tell("text", x.text());
        home();
        tell("undo", x.undo());
        home();
        tell("tear", x.tear());
    }
}
