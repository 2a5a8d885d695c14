import java.util.ArrayList;
import java.util.Arrays;
import java.util.Collections;
import java.util.LinkedHashMap;
import java.util.List;
import java.util.Map;
import java.util.NoSuchElementException;

/** A second way to answer each call: whole lines, rows and seats are written out each time, as the document tells them. */
public final class Model {
    private static final class Song {
        char form;
        char tuning;
        List<Integer> notes;
        List<List<Integer>> villages = new ArrayList<>();
    }

    private static final class Member {
        int age;
        int hearing;
        int layers;
        boolean absent;
        Integer seatPlayed;
        int level;
    }

    private static final class Gamelan {
        char tuning;
        int base;
        List<Integer> gaps = new ArrayList<>();
    }

    private List<Integer> noted = new ArrayList<>();
    private final List<Song> songs = new ArrayList<>();
    private final Map<String, Integer> learnt = new LinkedHashMap<>();
    private final List<Member> members = new ArrayList<>();
    private final List<Gamelan> gamelans = new ArrayList<>();
    private final List<int[]> pairs = new ArrayList<>();
    private final List<int[]> modes = new ArrayList<>();
    private int day = 0;
    private int song = -1;
    private int lastBeat = 0;
    private int tempo = 1000;
    private int bent = 100;
    private long time = 0;
    private int gongCount = 0;
    private int metCount = 0;
    private int[] levelCue = null;
    private int[] songCue = null;

    // ---- helpers

    private static void range(int number, int from, int to) {
        if (number < from || number > to) {
            throw new IllegalArgumentException();
        }
    }

    private static <T> T of(List<T> list, int number) {
        if (number < 0 || number >= list.size()) {
            throw new IndexOutOfBoundsException();
        }
        return list.get(number);
    }

    private static List<Integer> figures(char tuning) {
        if (tuning == 's') {
            return List.of(1, 2, 3, 5, 6);
        }
        if (tuning == 'p') {
            return List.of(1, 2, 3, 4, 5, 6, 7);
        }
        throw new IllegalArgumentException();
    }

    private static List<Integer> ladder(char tuning) {
        List<Integer> all = new ArrayList<>();
        for (int register = -1; register <= 1; register++) {
            for (int figure : figures(tuning)) {
                all.add(10 * figure + 5 + register);
            }
        }
        return all;
    }

    private static void figureOf(char tuning, int figure) {
        if (!figures(tuning).contains(figure)) {
            throw new IllegalArgumentException();
        }
    }

    private static String strokes(Song song) {
        int n = song.notes.size();
        StringBuilder row = new StringBuilder("-".repeat(n));
        for (int beat = 1; beat <= n; beat++) {
            boolean small = switch (song.form) {
                case 'l' -> beat % 2 == 1;
                case 'f' -> beat % 2 == 0;
                case 'o' -> beat % 8 == 4;
                default -> beat % 4 == 2;
            };
            if (small) {
                row.setCharAt(beat - 1, 'T');
            }
        }
        int step = song.form == 'l' || song.form == 'f' ? 4 : song.form == 'o' ? 16 : 8;
        if (song.form != 'o' && song.form != 'f') {
            for (int beat = step; beat < n; beat += step) {
                row.setCharAt(beat + step / 2 - 1, 'P');
            }
        }
        for (int beat = step; beat < n; beat += step) {
            row.setCharAt(beat - 1, 'N');
        }
        row.setCharAt(n - 1, 'G');
        return row.toString();
    }

    private static char strokeOf(Song song, int beat) {
        range(beat, 1, song.notes.size());
        return strokes(song).charAt(beat - 1);
    }

    private static boolean endsPhrase(Song song, int beat) {
        char stroke = strokeOf(song, beat);
        return stroke == 'G' || stroke == 'N';
    }

    private static List<Integer> goals(Song song) {
        List<Integer> goals = new ArrayList<>();
        int last = song.notes.get(song.notes.size() - 1);
        for (int i = 0; i < song.notes.size(); i++) {
            if (song.notes.get(i) != 0) {
                last = song.notes.get(i);
            }
            if (i % 4 == 3) {
                goals.add(last);
            }
        }
        return goals;
    }

    private List<Integer> run(Song song, int four, int level) {
        List<Integer> goals = goals(song);
        List<Integer> ladder = ladder(song.tuning);
        int goal = goals.get(four);
        int ahead = goals.get((four + goals.size() - 1) % goals.size());
        int at = ladder.indexOf(goal);
        int to = ladder.indexOf(ahead);
        List<Integer> back = new ArrayList<>();
        boolean reached = false;
        while (back.size() < 16 << level) {
            back.add(ladder.get(at));
            reached |= at == to;
            if (!reached) {
                at += at < to ? 1 : -1;
            } else if (at != to) {
                at = to;
            } else {
                at = to == ladder.size() - 1 ? to - 1 : to + 1;
            }
        }
        Integer steps = learnt.get(song.tuning + " " + ahead / 10 + " " + goal / 10);
        if (steps != null) {
            int[] four4 = {0, steps % 10 - 5, steps / 10 % 10 - 5, steps / 100 - 5};
            for (int i = 0; i < 4; i++) {
                int place = ladder.indexOf(goal) + four4[i];
                back.set(i, ladder.get(Math.max(0, Math.min(ladder.size() - 1, place))));
            }
        }
        Collections.reverse(back);
        return back;
    }

    private List<Integer> line(Song song, int layer, int level) {
        List<Integer> all = new ArrayList<>();
        List<Integer> notes = song.notes;
        List<Integer> ladder = ladder(song.tuning);
        int n = notes.size();
        for (int i = 0; i < n; i++) {
            int goal = goals(song).get(i / 4);
            if (layer == 0) {
                all.add(notes.get(i));
            } else if (layer == 1) {
                int one = notes.get(i / 2 * 2);
                int two = notes.get(i / 2 * 2 + 1);
                one = one == 0 ? two : one;
                two = two == 0 ? one : two;
                for (int k = 0; k < 1 << level; k++) {
                    all.add(one == 0 ? goal : one);
                    all.add(two == 0 ? goal : two);
                }
            } else if (layer == 2) {
                int j = i;
                while (notes.get(j % n) == 0) {
                    j++;
                }
                int place = ladder.indexOf(notes.get(j % n));
                for (int k = 0; k < 2 << level; k++) {
                    all.add(ladder.get(place));
                    all.add(ladder.get(place + 1 == ladder.size() ? place - 1 : place + 1));
                }
            } else if (layer == 3) {
                all.add(i % 4 == 1 || i % 4 == 3 ? goal / 10 * 10 + (goal % 10 == 6 ? 4 : 6) : 0);
            } else if (i % 4 == 0) {
                all.addAll(run(song, i / 4, level));
            }
        }
        return all;
    }

    private List<Integer> seats() {
        List<Integer> order = new ArrayList<>();
        for (int i = 0; i < members.size(); i++) {
            order.add(i);
        }
        order.sort((a, b) -> members.get(b).age - members.get(a).age);
        Integer[] seat = new Integer[members.size()];
        Arrays.fill(seat, -1);
        List<Integer> free = new ArrayList<>(List.of(0, 1, 2, 3, 4));
        for (int number : order) {
            for (Integer layer : new ArrayList<>(free)) {
                boolean knows = (members.get(number).layers & (1 << layer)) != 0;
                if (knows && !members.get(number).absent && seat[number] == -1) {
                    seat[number] = layer;
                    free.remove(layer);
                }
            }
        }
        return Arrays.asList(seat);
    }

    private List<Member> those() {
        List<Member> those = new ArrayList<>();
        for (Member member : members) {
            if (member.seatPlayed != null) {
                those.add(member);
            }
        }
        return those;
    }

    private int hearing(int loudness) {
        int count = 0;
        for (Member member : those()) {
            count += member.hearing + loudness >= 10 ? 1 : 0;
        }
        return count;
    }

    private void playing() {
        if (song < 0) {
            throw new IllegalStateException();
        }
    }

    private int pitchOf(Gamelan gamelan, int figure, int register) {
        int at = figures(gamelan.tuning).indexOf(figure);
        int sum = gamelan.base;
        for (int i = 0; i < gamelan.gaps.size(); i++) {
            sum += gamelan.gaps.get(i) * (register + (i < at ? 1 : 0));
        }
        return sum;
    }

    private boolean share(Gamelan one, Gamelan other, int figure) {
        return figures(one.tuning).contains(figure) && figures(other.tuning).contains(figure)
                && pitchOf(one, figure, 0) == pitchOf(other, figure, 0);
    }

    private List<Integer> longest(List<Integer> row) {
        List<Integer> best = row;
        for (int i = 0; i < songs.size(); i++) {
            if (!row.contains(i) && (row.isEmpty() || canGoOn(row.get(row.size() - 1), i))) {
                List<Integer> more = new ArrayList<>(row);
                more.add(i);
                List<Integer> found = longest(more);
                if (found.size() > best.size()) {
                    best = found;
                }
            }
        }
        return best;
    }

    // ---- tunes

    public int addNote(int figure, int register) {
        range(figure, 0, 7);
        if (figure > 0) {
            range(register, -1, 1);
        }
        if (noted.size() == 64) {
            throw new IllegalStateException();
        }
        noted.add(figure == 0 ? 0 : 10 * figure + 5 + register);
        return noted.size();
    }

    public int repeatNotes() {
        if (noted.isEmpty()) {
            throw new UnsupportedOperationException();
        }
        if (noted.size() > 32) {
            throw new IllegalStateException();
        }
        noted.addAll(new ArrayList<>(noted));
        return noted.size();
    }

    public int clearNotes() {
        int count = noted.size();
        noted = new ArrayList<>();
        return count;
    }

    public int addTune(char form, char tuning) {
        Map<Character, List<Integer>> beats = Map.of('l', List.of(8), 'm', List.of(16), 'g', List.of(32), 'o', List.of(64),
                'f', List.of(8, 12, 16, 20, 24, 28, 32, 36, 40, 44, 48, 52, 56, 60, 64));
        if (!beats.containsKey(form)) {
            throw new IllegalArgumentException();
        }
        List<Integer> ladder = ladder(tuning);
        boolean fits = beats.get(form).contains(noted.size()) && noted.get(noted.size() - 1) != 0;
        for (int note : noted) {
            fits &= note == 0 || ladder.contains(note);
        }
        if (!fits) {
            throw new UnsupportedOperationException();
        }
        if (songs.size() == 6) {
            throw new IllegalStateException();
        }
        Song made = new Song();
        made.form = form;
        made.tuning = tuning;
        made.notes = noted;
        for (int i = 0; i < 4; i++) {
            made.villages.add(new ArrayList<>(noted));
        }
        songs.add(made);
        noted = new ArrayList<>();
        return songs.size() - 1;
    }

    public char strokeAt(int tune, int beat) {
        return strokeOf(of(songs, tune), beat);
    }

    public int noteAt(int tune, int beat) {
        range(beat, 1, of(songs, tune).notes.size());
        return songs.get(tune).notes.get(beat - 1);
    }

    public int goalAt(int tune, int beat) {
        range(beat, 1, of(songs, tune).notes.size());
        return goals(songs.get(tune)).get((beat - 1) / 4);
    }

    public int phrases(int tune) {
        return strokes(of(songs, tune)).replaceAll("[^NG]", "").length();
    }

    public int learn(char tuning, int from, int to, int steps) {
        figureOf(tuning, from);
        figureOf(tuning, to);
        if (!Integer.toString(steps).matches("[1-9][1-9][1-9]")) {
            throw new IllegalArgumentException();
        }
        if (learnt.size() == 12) {
            throw new IllegalStateException();
        }
        learnt.put(tuning + " " + from + " " + to, steps);
        return learnt.size();
    }

    public int density(int layer, int level) {
        range(layer, 0, 4);
        range(level, 0, 3);
        return new int[][] {{1, 1, 1, 1}, {2, 4, 8, 16}, {4, 8, 16, 32}, {1, 1, 1, 1}, {4, 8, 16, 32}}[layer][level];
    }

    public int lineAt(int tune, int layer, int level, int beat, int stroke) {
        Song asked = of(songs, tune);
        int density = density(layer, level);
        range(beat, 1, asked.notes.size());
        if (stroke < 0 || stroke >= density) {
            throw new NoSuchElementException();
        }
        return line(asked, layer, level).get((beat - 1) * density + stroke);
    }

    // ---- players

    public int addPlayer(int age, int hearing, int layers) {
        range(age, 10, 99);
        range(hearing, 0, 9);
        range(layers, 0, 31);
        if (members.size() == 8) {
            throw new IllegalStateException();
        }
        Member member = new Member();
        member.age = age;
        member.hearing = hearing;
        member.layers = layers;
        members.add(member);
        return members.size() - 1;
    }

    public boolean setAbsent(int player, boolean is) {
        boolean before = of(members, player).absent;
        members.get(player).absent = is;
        return before;
    }

    public int seatOf(int player) {
        of(members, player);
        return seats().get(player);
    }

    public int playerAt(int layer) {
        range(layer, 0, 4);
        if (!seats().contains(layer)) {
            throw new NoSuchElementException();
        }
        return seats().indexOf(layer);
    }

    // ---- playing

    public int begin(int tune) {
        of(songs, tune);
        if (song >= 0) {
            throw new IllegalStateException();
        }
        song = tune;
        lastBeat = 0;
        levelCue = null;
        songCue = null;
        for (int i = 0; i < members.size(); i++) {
            members.get(i).seatPlayed = seats().get(i) < 0 ? null : seats().get(i);
            members.get(i).level = 0;
        }
        return those().size();
    }

    public int play(int beats) {
        range(beats, 1, 256);
        playing();
        for (int i = 0; i < beats; i++) {
            playOne();
            if (song < 0) {
                return i + 1;
            }
        }
        return beats;
    }

    private void playOne() {
        Song now = songs.get(song);
        lastBeat = lastBeat % now.notes.size() + 1;
        int least = 3;
        int most = 0;
        for (Member member : those()) {
            least = Math.min(least, member.level);
            most = Math.max(most, member.level);
        }
        int times = those().isEmpty() ? 1 : new int[] {1, 2, 4, 8}[least];
        time += tempo * times * bent / 100;
        if (strokeOf(now, lastBeat) == 'G') {
            gongCount++;
            boolean met = those().isEmpty() || least == most;
            for (Member member : those()) {
                List<Integer> line = line(now, member.seatPlayed, member.level);
                int last = line.get(line.size() - 1) / 10;
                met &= member.seatPlayed == 3 || member.seatPlayed == 2 || last == now.notes.get(now.notes.size() - 1) / 10;
            }
            metCount += met ? 1 : 0;
        }
        if (endsPhrase(now, lastBeat) && levelCue != null) {
            levelCue[2]++;
            for (Member member : those()) {
                boolean hears = member.hearing + levelCue[1] >= 10;
                if (levelCue[2] == (hears ? 1 : 2)) {
                    member.level = levelCue[0];
                }
            }
        }
        if (strokeOf(now, lastBeat) == 'G' && songCue != null) {
            songCue[2]++;
            boolean half = hearing(songCue[1]) * 2 >= those().size();
            if (half || songCue[2] == 2) {
                song = songCue[0];
                lastBeat = 0;
                songCue = null;
            }
        }
    }

    public int beat() {
        playing();
        return lastBeat;
    }

    public int tune() {
        playing();
        return song;
    }

    public int levelOf(int player) {
        Member member = of(members, player);
        playing();
        if (member.seatPlayed == null) {
            throw new IllegalStateException();
        }
        return member.level;
    }

    public int cueLevel(int level, int loudness) {
        range(level, 0, 3);
        range(loudness, 0, 9);
        playing();
        levelCue = new int[] {level, loudness, 0};
        return hearing(loudness);
    }

    public int cueTune(int tune, int loudness) {
        of(songs, tune);
        range(loudness, 0, 9);
        playing();
        songCue = new int[] {tune, loudness, 0};
        return hearing(loudness);
    }

    public int cueEnd(int loudness) {
        range(loudness, 0, 9);
        playing();
        songCue = new int[] {-1, loudness, 0};
        return hearing(loudness);
    }

    public int setTempo(int tempo) {
        range(tempo, 100, 5000);
        int before = this.tempo;
        this.tempo = tempo;
        return before;
    }

    public int bend(int percent) {
        range(percent, 50, 200);
        int before = bent;
        bent = percent;
        return before;
    }

    public long elapsed() {
        return time;
    }

    public int gongs() {
        return gongCount;
    }

    public int meetings() {
        return metCount;
    }

    public int gongsWithin(int tune, int time) {
        int beats = of(songs, tune).notes.size();
        range(time, 0, 9999999);
        int count = 0;
        for (int t = beats * tempo; t <= time; t += beats * tempo) {
            count++;
        }
        return count;
    }

    // ---- sets, bridges, pairs

    public int addSet(char tuning, int base) {
        figures(tuning);
        range(base, 0, 9999);
        if (gamelans.size() == 4) {
            throw new IllegalStateException();
        }
        Gamelan made = new Gamelan();
        made.tuning = tuning;
        made.base = base;
        for (int ignored : figures(tuning)) {
            made.gaps.add(tuning == 's' ? 240 : 171);
        }
        gamelans.add(made);
        return gamelans.size() - 1;
    }

    public int setGap(int set, int figure, int cents) {
        Gamelan asked = of(gamelans, set);
        figureOf(asked.tuning, figure);
        range(cents, 30, 500);
        return asked.gaps.set(figures(asked.tuning).indexOf(figure), cents);
    }

    public int pitch(int set, int figure, int register) {
        Gamelan asked = of(gamelans, set);
        figureOf(asked.tuning, figure);
        range(register, -1, 1);
        return pitchOf(asked, figure, register);
    }

    public int shared(int set, int other) {
        int bits = 0;
        int bit = 1;
        for (int figure = 1; figure <= 7; figure++) {
            bits += share(of(gamelans, set), of(gamelans, other), figure) ? bit : 0;
            bit *= 2;
        }
        return bits;
    }

    public boolean canGoOn(int tune, int next) {
        Song one = of(songs, tune);
        Song two = of(songs, next);
        int figure = one.notes.get(one.notes.size() - 1) / 10;
        if (figure != two.notes.get(two.notes.size() - 1) / 10) {
            return false;
        }
        boolean can = one.tuning == two.tuning;
        for (Gamelan a : gamelans) {
            for (Gamelan b : gamelans) {
                can |= a.tuning == one.tuning && b.tuning == two.tuning && share(a, b, figure);
            }
        }
        return can;
    }

    public int suiteAt(int index) {
        List<Integer> suite = longest(new ArrayList<>());
        if (index < 0 || index >= suite.size()) {
            throw new NoSuchElementException();
        }
        return suite.get(index);
    }

    public int addPair(int low, int high) {
        range(low, 1000, 99999);
        range(high, low, 99999);
        if (pairs.size() == 10) {
            throw new IllegalStateException();
        }
        pairs.add(new int[] {low, high});
        return pairs.size() - 1;
    }

    public int beating(int pair) {
        return of(pairs, pair)[1] - pairs.get(pair)[0];
    }

    public int file(int pair, boolean isHigh, int by) {
        int[] keys = of(pairs, pair).clone();
        range(by, 1, 99);
        keys[isHigh ? 1 : 0] -= by;
        if (keys[0] < 1000 || keys[1] < keys[0]) {
            throw new UnsupportedOperationException();
        }
        pairs.set(pair, keys);
        return keys[isHigh ? 1 : 0];
    }

    public int replace(int pair, boolean isHigh, int key) {
        int[] keys = of(pairs, pair).clone();
        range(key, 1000, 99999);
        int before = keys[isHigh ? 1 : 0];
        keys[isHigh ? 1 : 0] = key;
        if (keys[1] < keys[0]) {
            throw new UnsupportedOperationException();
        }
        pairs.set(pair, keys);
        return before;
    }

    public int drift(int days) {
        range(days, 1, 60);
        for (int until = day + days; day < until;) {
            day++;
            for (int i = 0; i < pairs.size(); i++) {
                if (day % (i + 2) == 0) {
                    pairs.get(i)[0] = Math.max(1000, pairs.get(i)[0] - 1);
                }
            }
        }
        return day;
    }

    public boolean areEven(int count, int within) {
        range(count, 0, 9999);
        range(within, 0, 999);
        return pairs.stream().allMatch(keys -> Math.abs(keys[1] - keys[0] - count) <= within);
    }

    // ---- modes, villages

    public int addMode(int figure, int from, int to) {
        range(figure, 1, 7);
        range(from, 0, 23);
        range(to, 0, 23);
        if (modes.size() == 8) {
            throw new IllegalStateException();
        }
        modes.add(new int[] {figure, from, to});
        return modes.size() - 1;
    }

    public boolean isProper(int tune, int mode, int hour) {
        Song asked = of(songs, tune);
        int[] asking = of(modes, mode);
        range(hour, 0, 23);
        List<Integer> hours = new ArrayList<>();
        int one = asking[1];
        hours.add(one);
        while (one != asking[2]) {
            one = (one + 1) % 24;
            hours.add(one);
        }
        return hours.contains(hour) && asked.notes.get(asked.notes.size() - 1) / 10 == asking[0];
    }

    public int vary(int tune, int village, int beat, int figure, int register) {
        Song asked = of(songs, tune);
        range(village, 0, 3);
        range(beat, 1, asked.notes.size());
        range(register, -1, 1);
        if (figure != 0) {
            figureOf(asked.tuning, figure);
        }
        if (endsPhrase(asked, beat)) {
            throw new UnsupportedOperationException();
        }
        return asked.villages.get(village).set(beat - 1, figure == 0 ? 0 : 10 * figure + 5 + register);
    }

    public int villageNote(int tune, int village, int beat) {
        Song asked = of(songs, tune);
        range(village, 0, 3);
        range(beat, 1, asked.notes.size());
        return asked.villages.get(village).get(beat - 1);
    }

    public boolean areWrittenAlike(int tune, int other) {
        Song one = of(songs, tune);
        Song two = of(songs, other);
        List<Integer> figures = new ArrayList<>();
        List<Integer> others = new ArrayList<>();
        one.notes.forEach(note -> figures.add(note / 10));
        two.notes.forEach(note -> others.add(note / 10));
        return one.form == two.form && one.tuning == two.tuning && figures.equals(others);
    }

    // ---- figures

    public long checksum() {
        List<Integer> parts = new ArrayList<>();
        for (Song one : songs) {
            parts.add(one.notes.size());
            parts.addAll(one.notes);
            parts.addAll(goals(one));
        }
        long sum = 7;
        for (int part : parts) {
            sum = sum * 31 + part;
        }
        return sum;
    }

    public float metShare() {
        if (gongCount == 0) {
            throw new ArithmeticException();
        }
        return (float) metCount / (float) gongCount;
    }

    public double meanBeating() {
        if (pairs.isEmpty()) {
            throw new ArithmeticException();
        }
        return (double) pairs.stream().mapToInt(keys -> keys[1] - keys[0]).sum() / (double) pairs.size();
    }

    public boolean isSound() {
        return true;
    }
}
