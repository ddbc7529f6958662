/** The example of README.md, with the answers that it tells. */
public final class ReadmeTests {
    private static final Check check = new Check("ReadmeTests");

    public static void main(String[] args) {
        TunnelControlDesk desk = new TunnelControlDesk();
        check.same("load", load(desk, "tunnel 5 1; bay 3; fan 0 3; car 1 east; fire 4; rate 50 * cars;"), 1);
        check.same("clearingTime", desk.clearingTime(200), 7);
        check.same("bestBays", desk.bestBays(), 8);
        check.same("bestSetting", desk.bestSetting(10), 0);
        check.same("run", desk.run(7), 1);
        check.same("total", desk.total(0), 350);
        check.same("undo", desk.undo(), 1);
        check.same("load with an error", load(desk, "tunnel 5 1; car 5 east;"), TunnelControlDesk.OUT_OF_RANGE);
        check.same("errorOffset", desk.errorOffset(), 16);
        check.same("the tunnel stays", desk.carSection(0), 1);
        check.finish();
    }

    private static int load(TunnelControlDesk desk, String text) {
        for (int start = 0; start < text.length(); start += 20) {
            int[] words = new int[5];
            for (int i = 0; i < 20; i++) {
                int sign = start + i < text.length() ? text.charAt(start + i) : ' ';
                words[i / 4] = words[i / 4] << 8 | sign;
            }
            desk.append(words[0], words[1], words[2], words[3], words[4]);
        }
        return desk.load(text.length());
    }
}
