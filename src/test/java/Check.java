/** Counts the answers that are not due, and brings texts into desks. */
final class Check {
    private final String name;
    private int checks;
    private int wrong;

    Check(String name) {
        this.name = name;
    }

    void same(String what, long got, long due) {
        checks++;
        if (got != due) {
            wrong++;
            System.out.println(name + ": " + what + " answered " + got + ", due is " + due);
        }
    }

    void yes(String what, boolean got) {
        same(what, got ? 1 : 0, 1);
    }

    void no(String what, boolean got) {
        same(what, got ? 1 : 0, 0);
    }

    /** The very class counts: the machine's own exceptions are subclasses of those promised. */
    void throwing(String what, Class<? extends RuntimeException> due, Runnable call) {
        checks++;
        String got = "nothing";
        try {
            call.run();
        } catch (RuntimeException e) {
            got = e.getClass().getName();
        }
        if (!got.equals(due.getName())) {
            wrong++;
            System.out.println(name + ": " + what + " threw " + got + ", due is " + due.getName());
        }
    }

    void outOfBounds(String what, Runnable call) {
        throwing(what, IndexOutOfBoundsException.class, call);
    }

    void illegalArgument(String what, Runnable call) {
        throwing(what, IllegalArgumentException.class, call);
    }

    void illegalState(String what, Runnable call) {
        throwing(what, IllegalStateException.class, call);
    }

    /** The text has its first error where the mark ^ stands in it, and leaves no tunnel. */
    void textError(String marked, int code) {
        int offset = marked.indexOf('^');
        textError(marked.substring(0, offset) + marked.substring(offset + 1), code, offset);
    }

    void textError(String text, int code, int offset) {
        TunnelControlDesk desk = new TunnelControlDesk();
        same("load of " + text, load(desk, text), code);
        same("errorOffset after " + text, desk.errorOffset(), offset);
        same("sectionCount after " + text, desk.sectionCount(), 0);
    }

    void textGood(String text, int cars) {
        TunnelControlDesk desk = new TunnelControlDesk();
        same("load of " + text, load(desk, text), cars);
        same("errorOffset after " + text, desk.errorOffset(), -1);
    }

    void finish() {
        System.out.println(name + ": " + checks + " checks, " + wrong + " wrong");
        if (wrong > 0) {
            System.exit(1);
        }
    }

    /** Appends the text with spaces up to a multiple of 20 bytes. */
    static void append(TunnelControlDesk desk, String text) {
        for (int start = 0; start < text.length(); start += 20) {
            int[] words = new int[5];
            for (int i = 0; i < 20; i++) {
                int at = start + i;
                int sign = at < text.length() ? text.charAt(at) & 255 : ' ';
                words[i / 4] = words[i / 4] << 8 | sign;
            }
            desk.append(words[0], words[1], words[2], words[3], words[4]);
        }
    }

    static int load(TunnelControlDesk desk, String text) {
        append(desk, text);
        return desk.load(text.length());
    }

    static TunnelControlDesk desk(String text) {
        TunnelControlDesk desk = new TunnelControlDesk();
        int cars = load(desk, text);
        if (cars < 0) {
            throw new IllegalStateException("error " + cars + " at " + desk.errorOffset() + " in " + text);
        }
        return desk;
    }

    /** All that the face tells of a desk, and what it will do. */
    static String state(TunnelControlDesk desk) {
        StringBuilder text = new StringBuilder();
        text.append(desk.clock()).append(' ').append(desk.flow()).append(' ').append(desk.rate()).append(' ')
                .append(desk.fireSection()).append(' ').append(desk.inside()).append(' ').append(desk.checksum());
        for (int i = 0; i < 4; i++) {
            text.append(" t").append(desk.total(i));
        }
        for (int i = 0; i < desk.sectionCount(); i++) {
            text.append(" s").append(desk.smoke(i)).append(' ').append(desk.bay(i)).append(desk.isRed(i, 1))
                    .append(desk.isRed(i, -1)).append(desk.carsIn(i, 1)).append(desk.carsIn(i, -1));
            try {
                text.append('f').append(desk.fan(i));
            } catch (IllegalStateException e) {
                text.append("no fan");
            }
        }
        for (int i = 0; i < desk.carCount(); i++) {
            text.append(" c").append(desk.carSection(i)).append(desk.carDirection(i)).append(' ')
                    .append(desk.exposure(i));
        }
        text.append(' ').append(desk.clearingTime(200)).append(' ').append(desk.exposureWith(3, 20));
        return text.toString();
    }
}
