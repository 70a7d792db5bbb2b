import java.util.ArrayDeque;
import java.util.ArrayList;
import java.util.Comparator;
import java.util.Deque;
import java.util.List;

/**
 * A second program for the document, written for plainness alone: it keeps copies of everything, works
 * everything out anew for each call, and reads texts byte by byte.
 */
final class Model {
    private static final int NONE = Check.NONE;
    private static final int BAD = Check.BAD;
    private static final int STATE = Check.STATE;
    private static final int FULL = Check.FULL;
    private static final List<String> WORDS = List.of(
            "base", "grow", "shrink", "min", "max", "margin", "rank", "height", "depth", "across");
    private static final int[][] RANGES = {
        {0, 400}, {0, 9}, {0, 9}, {0, 400}, {0, 400}, {0, 20}, {-9, 9}, {1, 100}, {0, 50}, {0, 4}};
    private static final int[][] BOX_RANGES = {{20, 999}, {0, 40}, {0, 40}, {0, 1}, {0, 5}, {0, 3}, {0, 1}};

    private static final class Thing {
        int[] is = {0, 0, 1, 0, 400, 0, 0, 10, 0, 4};
        boolean hidden;
        // What is worked out.
        int line;
        int place;
        int x;
        int size;
        int top;
        int pass;

        Thing copy() {
            Thing copy = new Thing();
            copy.is = is.clone();
            copy.hidden = hidden;
            return copy;
        }

        int greatest() {
            return is[3] > is[4] ? is[3] : is[4];
        }

        int clamp(int value) {
            return value < is[3] ? is[3] : value > greatest() ? greatest() : value;
        }

        int wish() {
            return clamp(is[0]);
        }

        int outerWish() {
            return wish() + 2 * is[5];
        }
    }

    private static final class Line {
        final List<Thing> things = new ArrayList<>();
        int firstPlace;
        int top;
        int height;
        int rest;
        boolean grows;
        int passes;
        int filled;
    }

    private record Snapshot(int[] box, List<Thing> things) {
    }

    private int[] box = {300, 0, 0, 1, 0, 0, 0};
    private List<Thing> things = new ArrayList<>();
    private final Deque<Snapshot> history = new ArrayDeque<>();
    private String text = "";

    int type(int letter) {
        if (letter < 0 || letter > 127) {
            return BAD;
        }
        if (text.length() == 80) {
            return FULL;
        }
        text += (char) letter;
        return text.length();
    }

    int clear() {
        int length = text.length();
        text = "";
        return length;
    }

    int insert(int item) {
        if (item < 0 || item > things.size()) {
            return BAD;
        }
        Thing thing = new Thing();
        int fault = read(thing);
        if (fault >= 0) {
            return -2000 - fault;
        }
        if (things.size() == 16) {
            return FULL;
        }
        keep();
        things.add(item, thing);
        return things.size();
    }

    int remove(int item) {
        if (!exists(item)) {
            return BAD;
        }
        keep();
        things.remove(item);
        return things.size();
    }

    int move(int item, int to) {
        if (!exists(item) || !exists(to)) {
            return BAD;
        }
        keep();
        Thing moved = things.remove(item);
        things.add(to, moved);
        return order().indexOf(moved) < 0 ? NONE : order().indexOf(moved);
    }

    int change(int item, int what, int value) {
        if (!exists(item) || what < 0 || what > 9 || value < RANGES[what][0] || value > RANGES[what][1]) {
            return BAD;
        }
        keep();
        int before = things.get(item).is[what];
        things.get(item).is[what] = value;
        return before;
    }

    int hide(int item) {
        if (!exists(item)) {
            return BAD;
        }
        keep();
        things.get(item).hidden = !things.get(item).hidden;
        return things.get(item).hidden ? 1 : 0;
    }

    int set(int what, int value) {
        if (what < 0 || what > 6 || value < BOX_RANGES[what][0] || value > BOX_RANGES[what][1]) {
            return BAD;
        }
        keep();
        int before = box[what];
        box[what] = value;
        return before;
    }

    int undo() {
        if (history.isEmpty()) {
            return STATE;
        }
        Snapshot latest = history.removeLast();
        box = latest.box();
        things = latest.things();
        return history.size();
    }

    int item(int item, int what) {
        if (!exists(item) || what < 0 || what > 11) {
            return BAD;
        }
        Thing thing = things.get(item);
        return what == 10 ? (thing.hidden ? 1 : 0) : what == 11 ? thing.wish() : thing.is[what];
    }

    int lies(int item, int what) {
        if (!exists(item) || what < 0 || what > 7) {
            return BAD;
        }
        Thing thing = things.get(item);
        if (thing.hidden) {
            return STATE;
        }
        layOut(box[0]);
        int[] told = {thing.line, thing.place, thing.x, thing.size, thing.top,
            thing.top + thing.is[7] - thing.is[8], thing.size - thing.wish(), thing.pass};
        return told[what];
    }

    int ordered(int place) {
        if (place < 0) {
            return BAD;
        }
        return place < order().size() ? things.indexOf(order().get(place)) : NONE;
    }

    int line(int line, int what) {
        if (line < 0 || what < 0 || what > 7) {
            return BAD;
        }
        List<Line> lines = layOut(box[0]);
        if (line >= lines.size()) {
            return NONE;
        }
        Line told = lines.get(line);
        int[] all = {told.things.size(), told.firstPlace, told.top, told.height, told.rest,
            told.grows ? 1 : 0, told.passes, told.filled};
        return all[what];
    }

    int at(int x, int y) {
        if (Math.abs((long) x) > 2000 || y < 0 || y > 5000) {
            return BAD;
        }
        layOut(box[0]);
        int found = NONE;
        for (Thing thing : order()) {
            boolean along = thing.x <= x && x <= thing.x + thing.size - 1;
            if (along && thing.top <= y && y <= thing.top + thing.is[7] - 1) {
                found = things.indexOf(thing);
            }
        }
        return found;
    }

    int leastWidth(int what, int n) {
        if (what != 0 && what != 1 || what == 0 && (n < 1 || n > 16) || what == 1 && n != 0) {
            return BAD;
        }
        for (int width = 20; width < 1000; width++) {
            List<Line> lines = layOut(width);
            if (what == 0 ? lines.size() <= n : lines.stream().noneMatch(line -> line.rest < 0)) {
                return width;
            }
        }
        return NONE;
    }

    int count(int what) {
        if (what < 0 || what > 13) {
            return BAD;
        }
        if (what > 6) {
            return box[what - 7];
        }
        List<Line> lines = layOut(box[0]);
        int high = lines.stream().mapToInt(line -> line.height).sum() + box[2] * Math.max(0, lines.size() - 1);
        int end = order().stream().mapToInt(thing -> thing.x + thing.size).max().orElse(NONE);
        int hidden = (int) things.stream().filter(thing -> thing.hidden).count();
        return new int[] {things.size(), hidden, lines.size(), high, end, history.size(), text.length()}[what];
    }

    long digest() {
        long hash = 148;
        for (int what = 0; what <= 13; what++) {
            hash = 31 * hash + count(what);
        }
        for (int item = 0; item < things.size(); item++) {
            for (int what = 0; what <= 11; what++) {
                hash = 31 * hash + item(item, what);
            }
            for (int what = 0; what <= 7 && !things.get(item).hidden; what++) {
                hash = 31 * hash + lies(item, what);
            }
        }
        for (int line = 0; line < count(2); line++) {
            for (int what = 0; what <= 7; what++) {
                hash = 31 * hash + line(line, what);
            }
        }
        for (Thing thing : order()) {
            hash = 31 * hash + things.indexOf(thing);
        }
        for (char letter : text.toCharArray()) {
            hash = 31 * hash + letter;
        }
        return hash;
    }

    private boolean exists(int item) {
        return item >= 0 && item < things.size();
    }

    private void keep() {
        List<Thing> copies = new ArrayList<>();
        for (Thing thing : things) {
            copies.add(thing.copy());
        }
        history.addLast(new Snapshot(box.clone(), copies));
        if (history.size() > 8) {
            history.removeFirst();
        }
    }

    /** Goes over the bytes once, and over an end behind them; returns the fault, or -1. */
    private int read(Thing into) {
        int property = 0;        // the one whose number is due, or stands at present; -1 if a word may come
        String number = "";      // what stands of it
        int numberAt = 0;
        String wanted = " " + String.join(" ", WORDS.subList(1, 10)) + " ";
        int k = 0;
        while (true) {
            char letter = k < text.length() ? text.charAt(k) : '\n';
            boolean digit = "0123456789".indexOf(letter) >= 0;
            if (property >= 0 && (digit || property == 6 && letter == '-' && number.isEmpty())) {
                numberAt = number.isEmpty() ? k : numberAt;
                number += letter;
                String digits = number.replace("-", "");
                if (digits.length() > 3) {
                    return k;
                }
                boolean whole = digits.length() == 3 || k + 1 == text.length()
                        || "0123456789".indexOf(text.charAt(k + 1)) < 0;
                if (whole && !digits.isEmpty()) {
                    int value = Integer.parseInt(number);
                    if (value < RANGES[property][0] || value > RANGES[property][1]) {
                        return numberAt;
                    }
                    into.is[property] = value;
                }
                k++;
                continue;
            }
            if (property >= 0 && !number.replace("-", "").isEmpty()) {
                property = -1;
                number = "";
            }
            if (letter == '\n' && k == text.length()) {
                return property >= 0 ? k : -1;
            }
            if (letter == ' ' && number.isEmpty()) {
                k++;
                continue;
            }
            String word = text.substring(k).replaceFirst("(?s)[^a-z].*", "");
            if (property >= 0 || word.isEmpty() || !wanted.contains(" " + word + " ")) {
                return k;
            }
            wanted = wanted.replace(" " + word + " ", " ");
            property = WORDS.indexOf(word);
            k += word.length();
        }
    }

    private List<Thing> order() {
        List<Thing> order = new ArrayList<>();
        for (Thing thing : things) {
            if (!thing.hidden) {
                order.add(thing);
            }
        }
        order.sort(Comparator.comparingInt(thing -> thing.is[6]));
        return order;
    }

    private List<Line> layOut(int width) {
        List<Line> lines = new ArrayList<>();
        List<Thing> order = order();
        for (int place = 0; place < order.size(); place++) {
            Thing thing = order.get(place);
            Line last = lines.isEmpty() ? null : lines.get(lines.size() - 1);
            if (last == null || box[3] == 1 && filled(last) + box[1] + thing.outerWish() > width) {
                last = new Line();
                last.firstPlace = place;
                lines.add(last);
            }
            last.things.add(thing);
            thing.line = lines.size() - 1;
            thing.place = place;
        }
        int top = 0;
        for (Line line : lines) {
            line.filled = filled(line);
            share(line, width);
            along(line, width);
            line.top = top;
            across(line);
            top += line.height + box[2];
        }
        return lines;
    }

    private int filled(Line line) {
        int sum = box[1] * (line.things.size() - 1);
        for (Thing thing : line.things) {
            sum += thing.outerWish();
        }
        return sum;
    }

    private void share(Line line, int width) {
        int room = width - box[1] * (line.things.size() - 1);
        int wishes = 0;
        for (Thing thing : line.things) {
            room -= 2 * thing.is[5];
            wishes += thing.wish();
        }
        line.grows = wishes < room;
        List<Thing> open = new ArrayList<>();
        for (Thing thing : line.things) {
            boolean stiff = line.grows ? thing.is[1] == 0 || thing.is[0] > thing.wish()
                    : thing.is[2] == 0 || thing.is[0] < thing.wish();
            thing.size = thing.wish();
            thing.pass = 0;
            if (!stiff) {
                open.add(thing);
            }
        }
        while (!open.isEmpty()) {
            line.passes++;
            long free = room;
            for (Thing thing : line.things) {
                free -= open.contains(thing) ? thing.is[0] : thing.size;
            }
            open.removeAll(onePass(open, line, line.grows ? Math.max(0, free) : Math.max(0, -free)));
        }
        line.rest = room;
        for (Thing thing : line.things) {
            line.rest -= thing.size;
        }
    }

    /** Returns those that are frozen by the pass. */
    private List<Thing> onePass(List<Thing> open, Line line, long shared) {
        long all = 0;
        for (Thing thing : open) {
            all += weight(thing, line.grows);
        }
        long sum = 0;
        long corrections = 0;
        int[] sizes = new int[open.size()];
        for (int k = 0; k < sizes.length; k++) {
            long weight = weight(open.get(k), line.grows);
            sum += weight;
            long got = all == 0 ? 0 : shared * sum / all - shared * (sum - weight) / all;
            sizes[k] = open.get(k).is[0] + (int) (line.grows ? got : -got);
            corrections += open.get(k).clamp(sizes[k]) - sizes[k];
        }
        List<Thing> frozen = new ArrayList<>();
        for (int k = 0; k < sizes.length; k++) {
            Thing thing = open.get(k);
            boolean freezes = corrections == 0 || corrections > 0 && sizes[k] < thing.is[3]
                    || corrections < 0 && sizes[k] > thing.greatest();
            if (freezes) {
                thing.size = thing.clamp(sizes[k]);
                thing.pass = line.passes;
                frozen.add(thing);
            }
        }
        return frozen;
    }

    private static long weight(Thing thing, boolean grows) {
        return grows ? thing.is[1] : thing.is[2] * thing.is[0];
    }

    private void along(Line line, int width) {
        int n = line.things.size();
        int r = line.rest;
        int way = box[4];
        if (r < 0 || n == 1) {
            way = new int[] {0, 1, 2, 0, 2, 2}[way];
        }
        int end = -box[1];
        for (int k = 0; k < n; k++) {
            Thing thing = line.things.get(k);
            int start = end + box[1] + thing.is[5];
            double moved = 0;
            switch (way) {
                case 1 -> moved = r;
                case 2 -> moved = r / 2.0;
                case 3 -> moved = (double) r * k / (n - 1);
                case 4 -> moved = (double) r * (2 * k + 1) / (2 * n);
                case 5 -> moved = (double) r * (k + 1) / (n + 1);
                default -> moved = 0;
            }
            thing.x = start + (int) Math.floor(moved);
            if (box[6] == 1) {
                thing.x = width - thing.x - thing.size;
            }
            end = start + thing.size + thing.is[5];
        }
    }

    private void across(Line line) {
        List<Integer> aboves = new ArrayList<>();
        List<Integer> depths = new ArrayList<>();
        line.height = 0;
        for (Thing thing : line.things) {
            line.height = Math.max(line.height, thing.is[7]);
            if (way(thing) == 3) {
                aboves.add(thing.is[7] - thing.is[8]);
                depths.add(thing.is[8]);
            }
        }
        int u = aboves.stream().max(Comparator.naturalOrder()).orElse(0);
        int d = depths.stream().max(Comparator.naturalOrder()).orElse(0);
        if (!aboves.isEmpty()) {
            line.height = Math.max(line.height, u + d);
        }
        for (Thing thing : line.things) {
            int left = line.height - thing.is[7];
            int[] lowered = {0, left, left / 2, u - (thing.is[7] - thing.is[8])};
            thing.top = line.top + lowered[way(thing)];
        }
    }

    private int way(Thing thing) {
        return thing.is[9] == 4 ? box[5] : thing.is[9];
    }
}
