import java.util.ArrayList;
import java.util.Arrays;
import java.util.Collections;
import java.util.Comparator;
import java.util.List;
import java.util.NoSuchElementException;
import java.util.function.Predicate;
import java.util.regex.Matcher;
import java.util.regex.Pattern;

/**
 * ../shared/DOC.md once more, built another way than the class so that both can hardly have the same fault: it keeps
 * what happened, not what it led to. Scores are sums over a log, undo plays all changes but the latest again.
 */
final class Model {
    private static final String COMMAND = "(player|start|drain|quit|(lane|bumper|target|nudge) [0-9])";
    private static final Pattern FORM = Pattern.compile(COMMAND + "(;" + COMMAND + ")*");

    private Play play = new Play();
    private List<List<String>> changes = new ArrayList<>();
    private int undoable;
    private List<List<String>> snapshot;
    private String buffer = "";
    private String output = "";
    private Integer errorPosition;
    private Integer failedCommand;

    /** What a call of the face with at most two numbers must answer. */
    Object answer(String method, int a, int b) {
        switch (method) {
            case "addPlayer": return change("player");
            case "startGame": return change("start");
            case "hitLane": return change("lane " + a);
            case "hitBumper": return change("bumper " + a);
            case "hitTarget": return change("target " + a);
            case "nudge": return change("nudge " + a);
            case "drain": return change("drain");
            case "quitGame": return change("quit");
            case "renderBall": return write(play.ball().text());
            case "renderRecords": return write(play.recordsText());
            case "outputAt": return output.charAt(index(a, output.length()));
            case "type": return type((char) a);
            case "runScript": return runScript();
            case "errorPosition": return element(errorPosition);
            case "failedCommand": return element(failedCommand);
            case "undo": return undo();
            case "save": return save();
            case "restore": return restore();
            default: return play.ask(method, a, b);
        }
    }

    private Object change(String command) {
        int answer = play.execute(command);
        keep(List.of(command));
        return answer;
    }

    private void keep(List<String> commands) {
        changes.add(commands);
        undoable = Math.min(8, undoable + 1);
    }

    private void playAgain() {
        play = new Play();
        for (List<String> commands : changes) {
            commands.forEach(play::execute);
        }
    }

    private int write(String text) {
        output = text;
        return text.length();
    }

    private int type(char character) {
        require(character >= ' ' && character <= '~', new IllegalArgumentException());
        require(buffer.length() < 60, new IllegalStateException());
        buffer += character;
        return buffer.length();
    }

    private int runScript() {
        String script = buffer;
        buffer = "";
        if (!FORM.matcher(script).matches()) {
            errorPosition = errorPosition(script);
            throw new IllegalArgumentException();
        }
        List<String> commands = List.of(script.split(";"));
        for (int i = 0; i < commands.size(); i++) {
            try {
                play.execute(commands.get(i));
            } catch (RuntimeException e) {
                failedCommand = i;
                playAgain();
                throw new IllegalStateException();
            }
        }
        keep(commands);
        return commands.size();
    }

    private static int errorPosition(String script) {
        int position = 0;
        while (position < script.length()) {
            Matcher matcher = FORM.matcher(script.substring(0, position + 1));
            if (!matcher.matches() && !matcher.hitEnd()) {
                return position;
            }
            position++;
        }
        return position;
    }

    private int undo() {
        require(undoable > 0, new NoSuchElementException());
        undoable--;
        changes.remove(changes.size() - 1);
        playAgain();
        return undoable;
    }

    private int save() {
        snapshot = new ArrayList<>(changes);
        return play.playerCount;
    }

    private int restore() {
        require(snapshot != null, new IllegalStateException());
        changes = new ArrayList<>(snapshot);
        undoable = 0;
        playAgain();
        return play.playerCount;
    }

    private static void require(boolean condition, RuntimeException exception) {
        if (!condition) {
            throw exception;
        }
    }

    private static int index(int index, int count) {
        require(index >= 0 && index < count, new IndexOutOfBoundsException());
        return index;
    }

    private static Integer element(Integer value) {
        require(value != null, new NoSuchElementException());
        return value;
    }

    /** Points that were scored: who got them, in which game, and for what. */
    private static final class Scoring {
        final int game;
        final int player;
        final char kind;
        final int points;

        Scoring(int game, int player, char kind, int points) {
            this.game = game;
            this.player = player;
            this.kind = kind;
            this.points = points;
        }
    }

    private static final class Entry {
        final int score;
        final int player;
        final int game;

        Entry(int score, int player, int game) {
            this.score = score;
            this.player = player;
            this.game = game;
        }
    }

    /** All that undo and the snapshot cover. */
    private static final class Play {
        int playerCount;
        int games;
        boolean running;
        int turn;
        int round;
        int drained;
        int tilts;
        int[] extra = new int[4];
        Pinball ball = new Pinball();
        final List<Scoring> log = new ArrayList<>();
        final List<Entry> entered = new ArrayList<>();

        Pinball ball() {
            require(running, new IllegalStateException());
            return ball;
        }

        int execute(String command) {
            String word = command.replaceAll(" .*", "");
            int number = command.contains(" ") ? Integer.parseInt(command.substring(word.length() + 1)) : 0;
            switch (word) {
                case "player": return addPlayer();
                case "start": return start();
                case "lane": return hit('l', index(number, 4));
                case "bumper": return hit('b', index(number, 3));
                case "target": return hit('t', index(number, 5));
                case "nudge": return nudge(number);
                case "drain": return drain();
                default: return quit();
            }
        }

        private int addPlayer() {
            require(!running && playerCount < 4, new IllegalStateException());
            return playerCount++;
        }

        private int start() {
            require(!running, new IllegalStateException());
            require(playerCount > 0, new NoSuchElementException());
            running = true;
            turn = 0;
            round = 1;
            extra = new int[4];
            ball = new Pinball();
            return ++games;
        }

        private int quit() {
            int player = turn;
            require(running, new IllegalStateException());
            running = false;
            return player;
        }

        int scoreOf(int player) {
            return sum(scoring -> scoring.game == games && scoring.player == player);
        }

        int sum(Predicate<Scoring> which) {
            return log.stream().filter(which).mapToInt(scoring -> scoring.points).sum();
        }

        private void score(char kind, int points) {
            boolean isBelow = scoreOf(turn) < 5000;
            log.add(new Scoring(games, turn, kind, points));
            if (isBelow && scoreOf(turn) >= 5000) {
                giveExtraBall();
            }
        }

        private void giveExtraBall() {
            extra[turn] = Math.min(3, extra[turn] + 1);
        }

        private int hit(char kind, int index) {
            Pinball hitBall = ball();
            int banks = hitBall.banks();
            int points = hitBall.hit(kind, index);
            if (banks == 1 && hitBall.banks() == 2) {
                giveExtraBall();
            }
            score(kind, points);
            return points;
        }

        private int nudge(int force) {
            require(force == 1 || force == 2 || force == 3, new IllegalArgumentException());
            Pinball nudged = ball();
            boolean wasTilted = nudged.isTilted();
            nudged.nudge(force);
            tilts += nudged.isTilted() && !wasTilted ? 1 : 0;
            return nudged.warnings;
        }

        private int drain() {
            Pinball lost = ball();
            if (lost.isSavable()) {
                lost.wasSaved = true;
                return 0;
            }
            int bonus = lost.bonus();
            score('u', bonus);
            drained++;
            ball = new Pinball();
            if (extra[turn] > 0) {
                extra[turn]--;
            } else {
                goOn();
            }
            return bonus;
        }

        private void goOn() {
            int past = (round - 1) * playerCount + turn + 1;
            if (past == 3 * playerCount) {
                running = false;
                for (int player = 0; player < playerCount; player++) {
                    entered.add(new Entry(scoreOf(player), player, games));
                }
                return;
            }
            round = past / playerCount + 1;
            turn = past % playerCount;
        }

        /** All that were ever entered, the best five of them: a stable sort keeps the earlier of equals first. */
        private List<Entry> records() {
            List<Entry> sorted = new ArrayList<>(entered);
            sorted.sort(Comparator.comparingInt(entry -> -entry.score));
            return sorted.subList(0, Math.min(5, sorted.size()));
        }

        String recordsText() {
            List<String> parts = new ArrayList<>();
            for (Entry entry : records()) {
                parts.add(entry.score + "@" + entry.game + "p" + entry.player);
            }
            return String.join(",", parts);
        }

        private Entry record(int place) {
            require(place >= 0 && place < records().size(), new NoSuchElementException());
            return records().get(place);
        }

        private int ranked(int rank) {
            require(rank >= 0 && rank < playerCount, new NoSuchElementException());
            List<Integer> players = new ArrayList<>(List.of(0, 1, 2, 3).subList(0, playerCount));
            players.sort(Comparator.comparingInt((Integer player) -> -scoreOf(player))
                    .thenComparingInt(player -> -extra[player]).thenComparingInt(player -> player));
            return players.get(rank);
        }

        private int nextPlayer() {
            Play copy = new Play();
            copy.playerCount = playerCount;
            copy.games = games;
            copy.running = running;
            copy.turn = turn;
            copy.round = round;
            copy.extra = extra.clone();
            copy.ball = ball().copy();
            copy.log.addAll(log);
            copy.drain();
            require(copy.running, new NoSuchElementException());
            return copy.turn;
        }

        Object ask(String method, int a, int b) {
            switch (method) {
                case "isRunning": return running;
                case "gameCount": return games;
                case "playerCount": return playerCount;
                case "currentPlayer": ball(); return turn;
                case "ballNumber": ball(); return round;
                case "score": return scoreOf(index(a, playerCount));
                case "extraBalls": return extra[index(a, playerCount)];
                case "playerAtRank": return ranked(a);
                case "nextPlayer": return nextPlayer();
                case "recordCount": return records().size();
                case "recordScore": return record(a).score;
                case "recordPlayer": return record(a).player;
                case "recordGame": return record(a).game;
                case "pointsTotal": return sum(scoring -> true);
                case "pointsOf": return pointsOf((char) a);
                case "drainedBalls": return drained;
                case "tiltedBalls": return tilts;
                case "meanScore": return meanScore();
                case "tiltRate": return tiltRate();
                case "isConsistent": return true;
                default: return askBall(method, a, b);
            }
        }

        private Object pointsOf(char kind) {
            require("lbtu".indexOf(kind) >= 0, new IllegalArgumentException());
            return sum(scoring -> scoring.kind == kind);
        }

        private Object meanScore() {
            require(playerCount > 0, new ArithmeticException());
            return (double) sum(scoring -> scoring.game == games) / (double) playerCount;
        }

        private Object tiltRate() {
            require(drained > 0, new ArithmeticException());
            return (float) tilts / (float) drained;
        }

        private Object askBall(String method, int a, int b) {
            switch (method) {
                case "isLit": index(a, 4); return ball().isLit(a);
                case "bumperValue": index(a, 3); return ball().bumperValue(a);
                case "isDown": index(a, 5); return ball().isDown(a);
                case "multiplier": return ball().multiplier();
                case "completedBanks": return ball().banks();
                case "bonusUnits": return ball().units();
                case "tiltMeter": return ball().meter;
                case "warnings": return ball().warnings;
                case "isTilted": return ball().isTilted();
                case "hits": return ball().hits;
                case "wouldBeSaved": return ball().isSavable();
                case "laneRun": case "laneRunByCounting": return ball().laneRun();
                case "bumperRun": case "bumperRunBySeries":
                    index(a, 3);
                    require(b >= 0 && b <= 50, new IllegalArgumentException());
                    return ball().bumperRun(a, b);
                case "bonusIfDrained": return ball().isSavable() ? 0 : ball.bonus();
                default: throw new UnsupportedOperationException(method);
            }
        }
    }

    /** A ball, told by how often each thing was hit: of n first hits, n / 4 or n / 5 complete a set. */
    private static final class Pinball {
        int laneSets;
        int bankSets;
        final List<Integer> lit = new ArrayList<>();
        final List<Integer> dropped = new ArrayList<>();
        final int[] bumps = new int[3];
        int hits;
        int meter;
        int warnings;
        boolean wasSaved;

        Pinball copy() {
            Pinball copy = new Pinball();
            copy.laneSets = laneSets;
            copy.bankSets = bankSets;
            copy.lit.addAll(lit);
            copy.dropped.addAll(dropped);
            System.arraycopy(bumps, 0, copy.bumps, 0, 3);
            copy.hits = hits;
            copy.meter = meter;
            copy.warnings = warnings;
            copy.wasSaved = wasSaved;
            return copy;
        }

        int hit(char kind, int index) {
            hits++;
            if (isTilted()) {
                return 0;
            }
            meter -= meter > 0 ? 1 : 0;
            int factor = multiplier();
            switch (kind) {
                case 'l': return factor * (add(lit, index, 4) ? 100 : 10);
                case 'b': bumps[index]++; return factor * valueAfter(bumps[index] - 1);
                default: return factor * (add(dropped, index, 5) ? 200 : 20);
            }
        }

        private boolean add(List<Integer> set, int index, int size) {
            if (set.contains(index)) {
                return false;
            }
            set.add(index);
            if (set.size() == size) {
                set.clear();
                laneSets += size == 4 ? 1 : 0;
                bankSets += size == 5 ? 1 : 0;
            }
            return true;
        }

        void nudge(int force) {
            if (isTilted()) {
                return;
            }
            meter += force;
            if (meter >= 5) {
                meter = 0;
                warnings++;
            }
        }

        boolean isTilted() {
            return warnings == 3;
        }

        boolean isSavable() {
            return !isTilted() && hits < 4 && !wasSaved;
        }

        int multiplier() {
            return Math.min(6, 1 + laneSets);
        }

        boolean isLit(int lane) {
            return lit.contains(lane);
        }

        boolean isDown(int target) {
            return dropped.contains(target);
        }

        int banks() {
            return bankSets;
        }

        int units() {
            return dropped.size() + 8 * bankSets;
        }

        int bonus() {
            return isTilted() ? 0 : 100 * units() * multiplier();
        }

        int bumperValue(int bumper) {
            return valueAfter(bumps[bumper]);
        }

        private static int valueAfter(int count) {
            return Math.min(200, 50 + 10 * count);
        }

        int laneRun() {
            Pinball copy = copy();
            List<Integer> unlit = new ArrayList<>(Arrays.asList(0, 1, 2, 3));
            unlit.removeAll(lit);
            return unlit.stream().mapToInt(lane -> copy.hit('l', lane)).sum();
        }

        int bumperRun(int bumper, int count) {
            Pinball copy = copy();
            return Collections.nCopies(count, bumper).stream().mapToInt(index -> copy.hit('b', index)).sum();
        }

        String text() {
            StringBuilder text = new StringBuilder("x" + multiplier() + " .... |||||");
            lit.forEach(lane -> text.setCharAt(3 + lane, '*'));
            dropped.forEach(target -> text.setCharAt(8 + target, '_'));
            return text + "!".repeat(warnings) + (isTilted() ? "T" : "");
        }
    }
}
