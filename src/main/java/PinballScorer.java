import java.util.NoSuchElementException;

public final class PinballScorer {
    private static final int MAX_PLAYERS = 4;
    private static final int BALLS_PER_GAME = 3;
    private static final int MAX_EXTRA_BALLS = 3;
    private static final int MILESTONE = 5000;
    private static final int MAX_RECORDS = 5;
    private static final int NOBODY = -1;

    private static final int LANES = 4;
    private static final int LANE_POINTS = 100;
    private static final int LIT_LANE_POINTS = 10;
    private static final int MAX_MULTIPLIER = 6;

    private static final int BUMPERS = 3;
    private static final int FIRST_BUMPER_VALUE = 50;
    private static final int BUMPER_GROWTH = 10;
    private static final int MAX_BUMPER_VALUE = 200;
    private static final int MAX_RUN_HITS = 50;
    private static final int CHECKED_RUN_HITS = 20;

    private static final int TARGETS = 5;
    private static final int TARGET_POINTS = 200;
    private static final int DOWN_TARGET_POINTS = 20;
    private static final int BANK_BONUS_UNITS = 3;
    private static final int REWARDED_BANK = 2;
    private static final int BONUS_UNIT_POINTS = 100;

    private static final int MIN_FORCE = 1;
    private static final int MAX_FORCE = 3;
    private static final int WARNING_LEVEL = 5;
    private static final int TILT_WARNINGS = 3;
    private static final int MAX_SAVED_HITS = 3;

    private static final int FROM_LANES = 0;
    private static final int FROM_BUMPERS = 1;
    private static final int FROM_TARGETS = 2;
    private static final int FROM_UNITS = 3;
    private static final int KINDS = 4;
    private static final int NO_KIND = -1;

    private static final int SCRIPT_CAPACITY = 60;
    private static final int FIRST_CHARACTER = 32;
    private static final int LAST_CHARACTER = 126;
    private static final int UNDO_LIMIT = 8;

    private static final Command[] COMMANDS = Command.values();

    private final Table table = new Table();
    private final History history = new History();
    private final Table snapshot = new Table();
    private boolean hasSnapshot;
    private final Ball trial = new Ball();
    private final StringBuilder output = new StringBuilder();
    private final Script script = new Script();
    private boolean hasErrorPosition;
    private int errorPosition;
    private boolean hasFailedCommand;
    private int failedCommand;

    public PinballScorer() {
    }

    // Games and hits

    public int addPlayer() throws IllegalStateException {
        if (!table.canAdmit()) {
            throw new IllegalStateException("a game is running, or there are 4 players");
        }
        history.remember(table);
        return table.admit();
    }

    public int startGame() throws IllegalStateException, NoSuchElementException {
        if (table.running) {
            throw new IllegalStateException("a game is running");
        }
        if (table.playerCount == 0) {
            throw new NoSuchElementException("there are no players");
        }
        history.remember(table);
        return table.beginGame();
    }

    public int hitLane(int lane) throws IndexOutOfBoundsException, IllegalStateException {
        requireIndex(lane, LANES);
        requireGame();
        history.remember(table);
        return table.playLane(lane);
    }

    public int hitBumper(int bumper) throws IndexOutOfBoundsException, IllegalStateException {
        requireIndex(bumper, BUMPERS);
        requireGame();
        history.remember(table);
        return table.playBumper(bumper);
    }

    public int hitTarget(int target) throws IndexOutOfBoundsException, IllegalStateException {
        requireIndex(target, TARGETS);
        requireGame();
        history.remember(table);
        return table.playTarget(target);
    }

    public int nudge(int force) throws IllegalArgumentException, IllegalStateException {
        if (!isForce(force)) {
            throw new IllegalArgumentException("the force is not between 1 and 3");
        }
        requireGame();
        history.remember(table);
        return table.shake(force);
    }

    public int drain() throws IllegalStateException {
        requireGame();
        history.remember(table);
        return table.loseBall();
    }

    public int quitGame() throws IllegalStateException {
        requireGame();
        history.remember(table);
        return table.breakOff();
    }

    // The game

    public boolean isRunning() {
        return table.running;
    }

    public int gameCount() {
        return table.gameCount;
    }

    public int playerCount() {
        return table.playerCount;
    }

    public int currentPlayer() throws IllegalStateException {
        requireGame();
        return table.currentPlayer;
    }

    public int ballNumber() throws IllegalStateException {
        requireGame();
        return table.ballNumber;
    }

    public int score(int player) throws IndexOutOfBoundsException {
        requireIndex(player, table.playerCount);
        return table.scores[player];
    }

    public int extraBalls(int player) throws IndexOutOfBoundsException {
        requireIndex(player, table.playerCount);
        return table.extraBalls[player];
    }

    public int playerAtRank(int rank) throws NoSuchElementException {
        int player = table.playerRanked(rank);
        if (player == NOBODY) {
            throw new NoSuchElementException("there is no such rank");
        }
        return player;
    }

    // The ball

    public int multiplier() throws IllegalStateException {
        requireGame();
        return table.ball.multiplier;
    }

    public boolean isLit(int lane) throws IndexOutOfBoundsException, IllegalStateException {
        requireIndex(lane, LANES);
        requireGame();
        return table.ball.lit[lane];
    }

    public int bumperValue(int bumper) throws IndexOutOfBoundsException, IllegalStateException {
        requireIndex(bumper, BUMPERS);
        requireGame();
        return table.ball.bumperValues[bumper];
    }

    public boolean isDown(int target) throws IndexOutOfBoundsException, IllegalStateException {
        requireIndex(target, TARGETS);
        requireGame();
        return table.ball.down[target];
    }

    public int completedBanks() throws IllegalStateException {
        requireGame();
        return table.ball.completedBanks;
    }

    public int bonusUnits() throws IllegalStateException {
        requireGame();
        return table.ball.bonusUnits;
    }

    public int tiltMeter() throws IllegalStateException {
        requireGame();
        return table.ball.tiltMeter;
    }

    public int warnings() throws IllegalStateException {
        requireGame();
        return table.ball.warnings;
    }

    public boolean isTilted() throws IllegalStateException {
        requireGame();
        return table.ball.tilted;
    }

    public int hits() throws IllegalStateException {
        requireGame();
        return table.ball.hits;
    }

    public boolean wouldBeSaved() throws IllegalStateException {
        requireGame();
        return table.ball.canBeSaved();
    }

    // Predictions

    public int laneRun() throws IllegalStateException {
        requireGame();
        return simulatedLanes();
    }

    public int laneRunByCounting() throws IllegalStateException {
        requireGame();
        return table.ball.countedLanes();
    }

    public int bumperRun(int bumper, int hits)
            throws IndexOutOfBoundsException, IllegalArgumentException, IllegalStateException {
        requireBumperRun(bumper, hits);
        return simulatedBumper(bumper, hits);
    }

    public int bumperRunBySeries(int bumper, int hits)
            throws IndexOutOfBoundsException, IllegalArgumentException, IllegalStateException {
        requireBumperRun(bumper, hits);
        return table.ball.bumperSeries(bumper, hits);
    }

    public int bonusIfDrained() throws IllegalStateException {
        requireGame();
        return table.ball.canBeSaved() ? 0 : table.ball.bonusPoints();
    }

    public int nextPlayer() throws IllegalStateException, NoSuchElementException {
        requireGame();
        int player = table.playerAfterDrain();
        if (player == NOBODY) {
            throw new NoSuchElementException("the game would be over");
        }
        return player;
    }

    // Records and totals

    public int recordCount() {
        return table.records.count;
    }

    public int recordScore(int place) throws NoSuchElementException {
        requireRecord(place);
        return table.records.scores[place];
    }

    public int recordPlayer(int place) throws NoSuchElementException {
        requireRecord(place);
        return table.records.players[place];
    }

    public int recordGame(int place) throws NoSuchElementException {
        requireRecord(place);
        return table.records.games[place];
    }

    public int pointsTotal() {
        return table.totals.allPoints;
    }

    public int pointsOf(char kind) throws IllegalArgumentException {
        int index = kindIndex(kind);
        if (index == NO_KIND) {
            throw new IllegalArgumentException("there is no such kind");
        }
        return table.totals.points[index];
    }

    public int drainedBalls() {
        return table.totals.drainedBalls;
    }

    public int tiltedBalls() {
        return table.totals.tiltedBalls;
    }

    public double meanScore() throws ArithmeticException {
        if (table.playerCount == 0) {
            throw new ArithmeticException("there are no players");
        }
        return (double) table.scoreSum() / (double) table.playerCount;
    }

    public float tiltRate() throws ArithmeticException {
        if (table.totals.drainedBalls == 0) {
            throw new ArithmeticException("no ball has drained");
        }
        return (float) table.totals.tiltedBalls / (float) table.totals.drainedBalls;
    }

    public boolean isConsistent() {
        if (table.running && !predictionsAgree()) {
            return false;
        }
        return table.totals.addUp() && table.records.areSorted();
    }

    // Output and scripts

    public int renderBall() throws IllegalStateException {
        requireGame();
        output.setLength(0);
        table.ball.describe(output);
        return output.length();
    }

    public int renderRecords() {
        output.setLength(0);
        table.records.describe(output);
        return output.length();
    }

    public char outputAt(int index) throws IndexOutOfBoundsException {
        requireIndex(index, output.length());
        return output.charAt(index);
    }

    public int type(char character) throws IllegalArgumentException, IllegalStateException {
        if (character < FIRST_CHARACTER || character > LAST_CHARACTER) {
            throw new IllegalArgumentException("the character code is not between 32 and 126");
        }
        if (script.length >= SCRIPT_CAPACITY) {
            throw new IllegalStateException("the script buffer has 60 characters");
        }
        return script.append(character);
    }

    public int runScript() throws IllegalArgumentException, IllegalStateException {
        boolean wellFormed = script.parse();
        script.length = 0;
        if (!wellFormed) {
            hasErrorPosition = true;
            errorPosition = script.position;
            throw new IllegalArgumentException("the script does not have the required form");
        }
        history.hold(table);
        int executed = executeCommands();
        if (executed < script.commandCount) {
            table.copyFrom(history.held());
            hasFailedCommand = true;
            failedCommand = executed;
            throw new IllegalStateException("a command of the script failed");
        }
        history.keepHeld();
        return executed;
    }

    public int errorPosition() throws NoSuchElementException {
        if (!hasErrorPosition) {
            throw new NoSuchElementException("every script had the required form");
        }
        return errorPosition;
    }

    public int failedCommand() throws NoSuchElementException {
        if (!hasFailedCommand) {
            throw new NoSuchElementException("no command of a script has failed");
        }
        return failedCommand;
    }

    public int undo() throws NoSuchElementException {
        if (history.count == 0) {
            throw new NoSuchElementException("there is nothing to undo");
        }
        table.copyFrom(history.takeLatest());
        return history.count;
    }

    public int save() {
        snapshot.copyFrom(table);
        hasSnapshot = true;
        return table.playerCount;
    }

    public int restore() throws IllegalStateException {
        if (!hasSnapshot) {
            throw new IllegalStateException("there is no snapshot");
        }
        table.copyFrom(snapshot);
        history.count = 0;
        return table.playerCount;
    }

    // Helpers

    private void requireGame() {
        if (!table.running) {
            throw new IllegalStateException("no game is running");
        }
    }

    private static void requireIndex(int index, int count) {
        if (!isIndex(index, count)) {
            throw new IndexOutOfBoundsException("there is no such index");
        }
    }

    private void requireRecord(int place) {
        if (!isIndex(place, table.records.count)) {
            throw new NoSuchElementException("there is no such place");
        }
    }

    private void requireBumperRun(int bumper, int hitCount) {
        requireIndex(bumper, BUMPERS);
        if (hitCount < 0 || hitCount > MAX_RUN_HITS) {
            throw new IllegalArgumentException("hits is not between 0 and 50");
        }
        requireGame();
    }

    private static boolean isIndex(int index, int count) {
        return index >= 0 && index < count;
    }

    private static boolean isForce(int force) {
        return force >= MIN_FORCE && force <= MAX_FORCE;
    }

    private static int kindIndex(char kind) {
        switch (kind) {
            case 'l': return FROM_LANES;
            case 'b': return FROM_BUMPERS;
            case 't': return FROM_TARGETS;
            case 'u': return FROM_UNITS;
            default: return NO_KIND;
        }
    }

    private static boolean allTrue(boolean[] flags) {
        for (boolean flag : flags) {
            if (!flag) {
                return false;
            }
        }
        return true;
    }

    private static void clearAll(boolean[] flags) {
        for (int i = 0; i < flags.length; i++) {
            flags[i] = false;
        }
    }

    private static void copyAll(boolean[] from, boolean[] to) {
        for (int i = 0; i < from.length && i < to.length; i++) {
            to[i] = from[i];
        }
    }

    private int simulatedLanes() {
        trial.copyFrom(table.ball);
        int points = 0;
        for (int lane = 0; lane < LANES; lane++) {
            if (!table.ball.lit[lane]) {
                points += trial.strikeLane(lane);
            }
        }
        return points;
    }

    private int simulatedBumper(int bumper, int hitCount) {
        trial.copyFrom(table.ball);
        int points = 0;
        for (int i = 0; i < hitCount; i++) {
            points += trial.strikeBumper(bumper);
        }
        return points;
    }

    private boolean predictionsAgree() {
        if (simulatedLanes() != table.ball.countedLanes()) {
            return false;
        }
        for (int bumper = 0; bumper < BUMPERS; bumper++) {
            for (int i = 0; i <= CHECKED_RUN_HITS; i++) {
                if (simulatedBumper(bumper, i) != table.ball.bumperSeries(bumper, i)) {
                    return false;
                }
            }
        }
        return true;
    }

    private int executeCommands() {
        int executed = 0;
        while (executed < script.commandCount
                && table.execute(script.commands[executed], script.digits[executed])) {
            executed++;
        }
        return executed;
    }

    /** The ball in play. Its hits do not test their index: the callers do. */
    private static final class Ball {
        int multiplier = 1;
        final boolean[] lit = new boolean[LANES];
        final int[] bumperValues = new int[BUMPERS];
        final boolean[] down = new boolean[TARGETS];
        int completedBanks;
        int bonusUnits;
        int tiltMeter;
        int warnings;
        int hits;
        boolean tilted;
        boolean saved;

        void begin() {
            multiplier = 1;
            clearAll(lit);
            for (int i = 0; i < BUMPERS; i++) {
                bumperValues[i] = FIRST_BUMPER_VALUE;
            }
            clearAll(down);
            completedBanks = 0;
            bonusUnits = 0;
            tiltMeter = 0;
            warnings = 0;
            hits = 0;
            tilted = false;
            saved = false;
        }

        void copyFrom(Ball other) {
            multiplier = other.multiplier;
            copyAll(other.lit, lit);
            System.arraycopy(other.bumperValues, 0, bumperValues, 0, BUMPERS);
            copyAll(other.down, down);
            completedBanks = other.completedBanks;
            bonusUnits = other.bonusUnits;
            tiltMeter = other.tiltMeter;
            warnings = other.warnings;
            hits = other.hits;
            tilted = other.tilted;
            saved = other.saved;
        }

        int strikeLane(int lane) {
            countHit();
            if (tilted) {
                return 0;
            }
            int points = (lit[lane] ? LIT_LANE_POINTS : LANE_POINTS) * multiplier;
            lit[lane] = true;
            if (allTrue(lit)) {
                clearAll(lit);
                multiplier = Math.min(multiplier + 1, MAX_MULTIPLIER);
            }
            return points;
        }

        int strikeBumper(int bumper) {
            countHit();
            if (tilted) {
                return 0;
            }
            int value = bumperValues[bumper];
            bumperValues[bumper] = Math.min(value + BUMPER_GROWTH, MAX_BUMPER_VALUE);
            return value * multiplier;
        }

        int strikeTarget(int target) {
            countHit();
            if (tilted) {
                return 0;
            }
            if (down[target]) {
                return DOWN_TARGET_POINTS * multiplier;
            }
            down[target] = true;
            bonusUnits++;
            if (allTrue(down)) {
                clearAll(down);
                bonusUnits += BANK_BONUS_UNITS;
                completedBanks++;
            }
            return TARGET_POINTS * multiplier;
        }

        private void countHit() {
            hits++;
            if (!tilted) {
                tiltMeter = Math.max(tiltMeter - 1, 0);
            }
        }

        void shake(int force) {
            if (tilted) {
                return;
            }
            tiltMeter += force;
            if (tiltMeter >= WARNING_LEVEL) {
                tiltMeter = 0;
                warnings++;
                tilted = warnings >= TILT_WARNINGS;
            }
        }

        boolean canBeSaved() {
            return !tilted && hits <= MAX_SAVED_HITS && !saved;
        }

        int bonusPoints() {
            return tilted ? 0 : BONUS_UNIT_POINTS * bonusUnits * multiplier;
        }

        int countedLanes() {
            if (tilted) {
                return 0;
            }
            int unlit = 0;
            for (boolean isOn : lit) {
                if (!isOn) {
                    unlit++;
                }
            }
            return unlit * LANE_POINTS * multiplier;
        }

        int bumperSeries(int bumper, int hitCount) {
            if (tilted) {
                return 0;
            }
            int value = bumperValues[bumper];
            int growing = Math.min(hitCount, (MAX_BUMPER_VALUE - value) / BUMPER_GROWTH);
            int series = growing * value + BUMPER_GROWTH * (growing * (growing - 1) / 2);
            return (series + (hitCount - growing) * MAX_BUMPER_VALUE) * multiplier;
        }

        void describe(StringBuilder text) {
            text.append('x');
            text.append(multiplier);
            text.append(' ');
            for (boolean isOn : lit) {
                text.append(isOn ? '*' : '.');
            }
            text.append(' ');
            for (boolean isDropped : down) {
                text.append(isDropped ? '_' : '|');
            }
            for (int i = 0; i < warnings; i++) {
                text.append('!');
            }
            if (tilted) {
                text.append('T');
            }
        }
    }

    /** The best scores of all games, the best one first. */
    private static final class Records {
        final int[] scores = new int[MAX_RECORDS];
        final int[] players = new int[MAX_RECORDS];
        final int[] games = new int[MAX_RECORDS];
        int count;

        void copyFrom(Records other) {
            System.arraycopy(other.scores, 0, scores, 0, MAX_RECORDS);
            System.arraycopy(other.players, 0, players, 0, MAX_RECORDS);
            System.arraycopy(other.games, 0, games, 0, MAX_RECORDS);
            count = other.count;
        }

        void enter(int score, int player, int game) {
            int place = count;
            while (place > 0 && scores[place - 1] < score) {
                place--;
            }
            if (place >= MAX_RECORDS) {
                return;
            }
            count = Math.min(count + 1, MAX_RECORDS);
            for (int i = count - 1; i > place; i--) {
                scores[i] = scores[i - 1];
                players[i] = players[i - 1];
                games[i] = games[i - 1];
            }
            scores[place] = score;
            players[place] = player;
            games[place] = game;
        }

        boolean areSorted() {
            for (int i = 1; i < count; i++) {
                if (!isBefore(i - 1, i)) {
                    return false;
                }
            }
            return true;
        }

        // Scores are entered game by game and player by player, so these two tell what was entered earlier.
        private boolean isBefore(int place, int other) {
            if (scores[place] != scores[other]) {
                return scores[place] > scores[other];
            }
            if (games[place] != games[other]) {
                return games[place] < games[other];
            }
            return players[place] < players[other];
        }

        void describe(StringBuilder text) {
            for (int i = 0; i < count; i++) {
                if (i > 0) {
                    text.append(',');
                }
                text.append(scores[i]);
                text.append('@');
                text.append(games[i]);
                text.append('p');
                text.append(players[i]);
            }
        }
    }

    /** What has been counted over all games. */
    private static final class Totals {
        final int[] points = new int[KINDS];
        int allPoints;
        int drainedBalls;
        int tiltedBalls;

        void copyFrom(Totals other) {
            System.arraycopy(other.points, 0, points, 0, KINDS);
            allPoints = other.allPoints;
            drainedBalls = other.drainedBalls;
            tiltedBalls = other.tiltedBalls;
        }

        boolean addUp() {
            int sum = 0;
            for (int part : points) {
                sum += part;
            }
            return sum == allPoints;
        }
    }

    /** All that undo and the snapshot cover. */
    private static final class Table {
        int playerCount;
        final int[] scores = new int[MAX_PLAYERS];
        final int[] extraBalls = new int[MAX_PLAYERS];
        boolean running;
        int gameCount;
        int currentPlayer;
        int ballNumber;
        final Ball ball = new Ball();
        final Records records = new Records();
        final Totals totals = new Totals();

        void copyFrom(Table other) {
            playerCount = other.playerCount;
            System.arraycopy(other.scores, 0, scores, 0, MAX_PLAYERS);
            System.arraycopy(other.extraBalls, 0, extraBalls, 0, MAX_PLAYERS);
            running = other.running;
            gameCount = other.gameCount;
            currentPlayer = other.currentPlayer;
            ballNumber = other.ballNumber;
            ball.copyFrom(other.ball);
            records.copyFrom(other.records);
            totals.copyFrom(other.totals);
        }

        boolean canAdmit() {
            return !running && playerCount < MAX_PLAYERS;
        }

        int admit() {
            int player = playerCount;
            scores[player] = 0;
            extraBalls[player] = 0;
            playerCount++;
            return player;
        }

        int beginGame() {
            for (int i = 0; i < playerCount; i++) {
                scores[i] = 0;
                extraBalls[i] = 0;
            }
            running = true;
            gameCount++;
            currentPlayer = 0;
            ballNumber = 1;
            ball.begin();
            return gameCount;
        }

        int playLane(int lane) {
            int points = ball.strikeLane(lane);
            award(FROM_LANES, points);
            return points;
        }

        int playBumper(int bumper) {
            int points = ball.strikeBumper(bumper);
            award(FROM_BUMPERS, points);
            return points;
        }

        int playTarget(int target) {
            int banksBefore = ball.completedBanks;
            int points = ball.strikeTarget(target);
            if (ball.completedBanks > banksBefore && ball.completedBanks == REWARDED_BANK) {
                gainExtraBall();
            }
            award(FROM_TARGETS, points);
            return points;
        }

        int shake(int force) {
            boolean wasTilted = ball.tilted;
            ball.shake(force);
            if (ball.tilted && !wasTilted) {
                totals.tiltedBalls++;
            }
            return ball.warnings;
        }

        int loseBall() {
            if (ball.canBeSaved()) {
                ball.saved = true;
                return 0;
            }
            int bonus = ball.bonusPoints();
            totals.drainedBalls++;
            award(FROM_UNITS, bonus);
            beginNextBall();
            return bonus;
        }

        int breakOff() {
            running = false;
            return currentPlayer;
        }

        private void award(int kind, int points) {
            if (reachesMilestone(points)) {
                gainExtraBall();
            }
            scores[currentPlayer] += points;
            totals.points[kind] += points;
            totals.allPoints += points;
        }

        // A score never falls within a game, so it crosses the milestone once.
        private boolean reachesMilestone(int points) {
            int score = scores[currentPlayer];
            return score < MILESTONE && score + points >= MILESTONE;
        }

        private void gainExtraBall() {
            extraBalls[currentPlayer] = Math.min(extraBalls[currentPlayer] + 1, MAX_EXTRA_BALLS);
        }

        private void beginNextBall() {
            if (extraBalls[currentPlayer] > 0) {
                extraBalls[currentPlayer]--;
                ball.begin();
                return;
            }
            int next = playerAfterLastBall();
            if (next == NOBODY) {
                finishGame();
                return;
            }
            if (next == 0) {
                ballNumber++;
            }
            currentPlayer = next;
            ball.begin();
        }

        private int playerAfterLastBall() {
            if (currentPlayer + 1 < playerCount) {
                return currentPlayer + 1;
            }
            return ballNumber < BALLS_PER_GAME ? 0 : NOBODY;
        }

        private void finishGame() {
            running = false;
            for (int i = 0; i < playerCount; i++) {
                records.enter(scores[i], i, gameCount);
            }
        }

        int playerAfterDrain() {
            if (ball.canBeSaved() || extraBalls[currentPlayer] > 0
                    || reachesMilestone(ball.bonusPoints())) {
                return currentPlayer;
            }
            return playerAfterLastBall();
        }

        int playerRanked(int rank) {
            for (int player = 0; player < playerCount; player++) {
                if (rankOf(player) == rank) {
                    return player;
                }
            }
            return NOBODY;
        }

        private int rankOf(int player) {
            int better = 0;
            for (int other = 0; other < playerCount; other++) {
                if (isAhead(other, player)) {
                    better++;
                }
            }
            return better;
        }

        private boolean isAhead(int player, int other) {
            if (scores[player] != scores[other]) {
                return scores[player] > scores[other];
            }
            if (extraBalls[player] != extraBalls[other]) {
                return extraBalls[player] > extraBalls[other];
            }
            return player < other;
        }

        int scoreSum() {
            int sum = 0;
            for (int i = 0; i < playerCount; i++) {
                sum += scores[i];
            }
            return sum;
        }

        /** Tells whether the command took effect; its method would throw otherwise. */
        boolean execute(Command command, int digit) {
            if (command == null || !allows(command, digit)) {
                return false;
            }
            switch (command) {
                case PLAYER: admit(); break;
                case START: beginGame(); break;
                case LANE: playLane(digit); break;
                case BUMPER: playBumper(digit); break;
                case TARGET: playTarget(digit); break;
                case NUDGE: shake(digit); break;
                case DRAIN: loseBall(); break;
                default: breakOff(); break;
            }
            return true;
        }

        private boolean allows(Command command, int digit) {
            switch (command) {
                case PLAYER: return canAdmit();
                case START: return !running && playerCount > 0;
                case LANE: return running && isIndex(digit, LANES);
                case BUMPER: return running && isIndex(digit, BUMPERS);
                case TARGET: return running && isIndex(digit, TARGETS);
                case NUDGE: return running && isForce(digit);
                default: return running;
            }
        }
    }

    /** The tables before the latest changes, in a ring with one slot more for a change that may still fail. */
    private static final class History {
        private static final int SLOTS = UNDO_LIMIT + 1;

        private final Table[] slots = new Table[SLOTS];
        private int free;
        int count;

        History() {
            for (int i = 0; i < SLOTS; i++) {
                slots[i] = new Table();
            }
        }

        void hold(Table table) {
            slots[free].copyFrom(table);
        }

        Table held() {
            return slots[free];
        }

        void keepHeld() {
            free = (free + 1) % SLOTS;
            count = Math.min(count + 1, UNDO_LIMIT);
        }

        void remember(Table table) {
            hold(table);
            keepHeld();
        }

        Table takeLatest() {
            free = (free + SLOTS - 1) % SLOTS;
            count--;
            return slots[free];
        }
    }

    /** No two words begin with the same letter, so the first letter tells the command. */
    private enum Command {
        PLAYER("player", false),
        START("start", false),
        LANE("lane ", true),
        BUMPER("bumper ", true),
        TARGET("target ", true),
        NUDGE("nudge ", true),
        DRAIN("drain", false),
        QUIT("quit", false);

        final String word;
        final boolean takesDigit;

        Command(String word, boolean takesDigit) {
            this.word = word;
            this.takesDigit = takesDigit;
        }
    }

    /** The script buffer, and the commands of the script that was parsed last. */
    private static final class Script {
        private final char[] text = new char[SCRIPT_CAPACITY];
        int length;
        int position;
        final Command[] commands = new Command[SCRIPT_CAPACITY];
        final int[] digits = new int[SCRIPT_CAPACITY];
        int commandCount;

        int append(char character) {
            text[length] = character;
            length++;
            return length;
        }

        /** Tells whether the text has the form; if not, the position is the error position. */
        boolean parse() {
            position = 0;
            commandCount = 0;
            boolean wellFormed = readCommand();
            while (wellFormed && position < length && commandCount < SCRIPT_CAPACITY) {
                wellFormed = read(';') && readCommand();
            }
            return wellFormed;
        }

        private boolean readCommand() {
            Command command = commandAhead();
            if (command == null || !readWord(command.word)) {
                return false;
            }
            int digit = 0;
            if (command.takesDigit) {
                if (!isDigitAhead()) {
                    return false;
                }
                digit = text[position] - '0';
                position++;
            }
            commands[commandCount] = command;
            digits[commandCount] = digit;
            commandCount++;
            return true;
        }

        private Command commandAhead() {
            if (position >= length) {
                return null;
            }
            for (Command command : COMMANDS) {
                if (command.word.indexOf(text[position]) == 0) {
                    return command;
                }
            }
            return null;
        }

        private boolean readWord(String word) {
            for (int i = 0; i < word.length(); i++) {
                if (!read(word.charAt(i))) {
                    return false;
                }
            }
            return true;
        }

        private boolean read(char expected) {
            if (position >= length || text[position] != expected) {
                return false;
            }
            position++;
            return true;
        }

        private boolean isDigitAhead() {
            return position < length && text[position] >= '0' && text[position] <= '9';
        }
    }
}
