/** All that can be seen of an object, as a text; what is looked at is used up by it. */
final class Look {
    private final MeanTown x;
    private final StringBuilder text = new StringBuilder();

    private Look(MeanTown x) {
        this.x = x;
    }

    static String at(MeanTown x) {
        Look look = new Look(x);
        look.houses("now");
        look.tape();
        look.sheets();
        look.text.append("restore ").append(x.restore()).append('\n');
        look.houses("image");
        return look.text.toString();
    }

    private void houses(String when) {
        text.append(when);
        for (int what = 0; what <= 4; what++) {
            text.append(' ').append(x.count(what));
        }
        int houses = x.count(0);
        for (int h = 0; h < houses; h++) {
            text.append(" house ").append(h);
            for (int what = 0; what <= 5; what++) {
                text.append(' ').append(x.told(h, what));
            }
        }
        text.append(" shares");
        for (int a = 0; a < houses; a++) {
            for (int b = 0; b < a; b++) {
                text.append(' ').append(x.share(a, b, 0));
            }
        }
        text.append(" purse ").append(x.purse(0)).append('\n');
    }

    private void tape() {
        text.append("tape ").append(x.type(' ', 1)).append(' ').append(x.town()).append('\n');
        houses("typed");
    }

    /** A town of one gate, as its books tell whether two items are alike. */
    private void sheets() {
        Due.write(x, "g0");
        x.town();
        for (int s = 0; s <= 3; s++) {
            text.append("sheet ").append(s);
            for (int lane = 0; lane <= 2; lane++) {
                text.append(" lane ").append(lane).append(' ').append(x.book(s, lane, -1));
                for (int i = 0; i < 19 && x.book(s, lane, i) > MeanTown.NULL; i++) {
                    text.append(' ').append(x.book(s, lane, i));
                }
            }
            text.append(" items ").append(x.drop(s)).append('\n');
        }
    }
}
