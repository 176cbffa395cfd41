/** All that the queries tell of a chain, as one text, so that two moments can be compared. */
final class View {
    private View() {
    }

    static String of(ScanChain x) {
        StringBuilder view = new StringBuilder(system(x));
        view.append(" history ").append(x.count(7)).append(" text ").append(x.count(8)).append(" fault ").append(x.fault());
        return view.toString();
    }

    /** Only the state of the system: without the text and the length of the history. */
    static String system(ScanChain x) {
        StringBuilder view = new StringBuilder("counts");
        for (int what = 0; what <= 6; what++) {
            view.append(' ').append(x.count(what));
        }
        for (int place = 0; x.chip(place, 0) != ScanChain.NO_SUCH; place++) {
            view.append(" | chip");
            for (int what = 0; what <= 9; what++) {
                view.append(' ').append(x.chip(place, what));
            }
        }
        view.append(" | found");
        for (int index = 0; index < x.count(6); index++) {
            view.append(' ').append(x.found(index));
        }
        view.append(" | peek ").append(x.peek(0)).append(x.peek(1)).append(" bypassed ").append(x.bypassed());
        return view.toString();
    }

    static void write(ScanChain x, String text) {
        for (int index = 0; index < text.length(); index++) {
            x.append(text.charAt(index));
        }
    }
}
