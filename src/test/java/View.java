/** All that the queries tell of a chain, as one text, so that two moments can be compared. */
final class View {
    private View() {
    }

    static String of(ScanChain x) {
        StringBuilder view = new StringBuilder(system(x));
        view.append(" history ").append(x.count(7)).append(" text ").append(x.count(8)).append(" fault ").append(x.fault());
        return view.toString();
    }

    /** Only the state of the system: without the text and the length of the history. */
    static String system(ScanChain x) {
        StringBuilder view = new StringBuilder("counts");
        for (int what = 0; what <= 6; what++) {
            view.append(' ').append(x.count(what));
        }
        for (int place = 0; place <= 6 && x.chip(place, 0) != ScanChain.NO_SUCH; place++) {
            view.append(" | chip ").append(chip(x, place));
        }
        view.append(" | found");
        for (int index = 0; index < x.count(6); index++) {
            view.append(' ').append(x.found(index));
        }
        view.append(" | peek ").append(x.peek(0)).append(x.peek(1)).append(" bypassed ").append(x.bypassed());
        return view.toString();
    }

    /** All that is told of one chip. */
    static String chip(ScanChain x, int place) {
        StringBuilder told = new StringBuilder();
        for (int what = 0; what <= 9; what++) {
            told.append(what == 0 ? "" : " ").append(x.chip(place, what));
        }
        return told.toString();
    }

    /** Also what no query tells: the records of the history, the snapshot, the letters of the text. It uses the chain up. */
    static String whole(ScanChain x) {
        StringBuilder view = new StringBuilder(of(x));
        for (int left = x.count(7); left > 0; left--) {
            view.append("\n undo ").append(x.undo()).append(' ').append(system(x));
        }
        view.append("\n restore ").append(x.restore()).append(' ').append(system(x));
        view.append("\n run ").append(x.run()).append(' ').append(system(x));
        return view.toString();
    }

    static void write(ScanChain x, String text) {
        for (int index = 0; index < text.length(); index++) {
            x.append(text.charAt(index));
        }
    }
}
