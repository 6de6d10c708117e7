import java.util.Arrays;

/** A store of events with batches, folds, readers and losses of power; the document DOC.md tells what each call does. */
public final class EventLedger {
  public static final int REFUSED = -1, NONE = -2, FULL = -3, WRONG = -4;

  private static final long ABSENT = 1L << 40;
  private static final long IMPROPER = ABSENT + 1;

  private static final int TAPE_BYTES = 1200;
  private static final int FED_BYTES = 20;
  private static final int MAX_EVENTS = 600;
  private static final int MAX_BATCH = 6;
  private static final int BATCH_BYTES = 8;
  private static final int EVENT_BYTES = 16;
  private static final int STREAMS = 8;
  private static final int KINDS = 8;
  private static final int ALL_BITS = 255;
  private static final int FOLDS = 6;
  private static final int MAX_CELLS = 40;
  private static final int VARIABLES = 8;
  private static final int READERS = 8;
  private static final int MAX_OUT = 8;
  private static final int PARKING = 3;

  private static final int MAX_RULES = 8;
  private static final int MAX_ACTIONS = 8;
  private static final int MAX_ATOMS = 120;
  private static final int MAX_DEPTH = 8;
  private static final int MAX_WORD = 8;
  private static final int MAX_NUMBER = 2147483647;

  // Codes of tokens; an instruction bears the code of the token that brings it. Signs of one byte are their own code.
  private static final int END = 0;
  private static final int UNKNOWN = 1;
  private static final int NUMBER = 2;
  private static final int VARIABLE = 3;
  private static final int UNEQUAL = 4;
  private static final int AT_MOST = 5;
  private static final int AT_LEAST = 6;

  // Codes of instructions whose token alone does not tell them.
  private static final int FIELD = 7;
  private static final int NEGATE = 8;
  private static final int SET = 9;

  // Codes of words, in the order of WORDS, where each has WORD_WIDTH characters.
  private static final String WORDS =
      "all   key   streamkind  value place by    on    any   from  where forgetleast most  or    and   not   fresh ";
  private static final int WORD_WIDTH = 6;
  private static final int ALL = 128;
  private static final int KEY = 129;
  private static final int STREAM = 130;
  private static final int KIND = 131;
  private static final int VALUE = 132;
  private static final int PLACE = 133;
  private static final int BY = 134;
  private static final int ON = 135;
  private static final int ANY = 136;
  private static final int FROM = 137;
  private static final int WHERE = 138;
  private static final int FORGET = 139;
  private static final int LEAST = 140;
  private static final int MOST = 141;
  private static final int OR = 142;
  private static final int AND = 143;
  private static final int NOT = 144;
  private static final int FRESH = 145;

  private final Tape tape;
  private final Batch batch;
  private final EventLog log;
  private final Grammar grammar;
  private final Machine machine;
  private final Fold[] folds;
  private final Fold[] keptFolds;
  private final Reader[] readers;
  private final Reader[] keptReaders;

  public EventLedger() {
    tape = new Tape();
    batch = new Batch();
    log = new EventLog();
    grammar = new Grammar();
    machine = new Machine();
    folds = new Fold[FOLDS];
    keptFolds = new Fold[FOLDS];
    for (int i = 0; i < FOLDS; i++) {
      folds[i] = new Fold();
      keptFolds[i] = new Fold();
    }
    readers = new Reader[READERS];
    keptReaders = new Reader[READERS];
    for (int i = 0; i < READERS; i++) {
      readers[i] = new Reader();
      keptReaders[i] = new Reader();
    }
  }

  public int feed(int a, int b, int c, int d, int e) {
    if (tape.length + FED_BYTES > TAPE_BYTES) return FULL;
    tape.add(a);
    tape.add(b);
    tape.add(c);
    tape.add(d);
    tape.add(e);
    return tape.length;
  }

  public int end(int n) {
    if (n < 0 || n > tape.length) return REFUSED;
    tape.length = n;
    return n;
  }

  public int stage(int kind, int key, int value) {
    if (kind < 0 || kind >= KINDS) return REFUSED;
    if (batch.size == MAX_BATCH) return FULL;
    batch.add(kind, key, value);
    return batch.size;
  }

  public int append(int stream, int expected) {
    if (!isStream(stream)) return REFUSED;
    if (batch.size == 0) return NONE;
    if (expected != -1 && expected != log.versions[stream]) return WRONG;
    if (log.events + batch.size > MAX_EVENTS) return FULL;
    int first = log.events;
    log.write(stream, batch);
    batch.size = 0;
    return first;
  }

  public int keep() {
    log.holdAll();
    for (int i = 0; i < FOLDS; i++) keptFolds[i].becomeLike(folds[i]);
    for (int i = 0; i < READERS; i++) keptReaders[i].becomeLike(readers[i]);
    return log.events;
  }

  public int crash(int n) {
    if (n < 0) return REFUSED;
    log.loseBehind(n);
    batch.size = 0;
    for (int i = 0; i < FOLDS; i++) folds[i].becomeLike(keptFolds[i]);
    for (int i = 0; i < READERS; i++) {
      readers[i].becomeLike(keptReaders[i]);
      readers[i].putOutBack();
    }
    return log.events;
  }

  public long event(int stream, int version, int what) {
    int number = log.numberOf(stream, version);
    if (number < 0) return ABSENT;
    switch (what) {
      case 0: return number;
      case 1: return log.kinds[number];
      case 2: return log.keys[number];
      case 3: return log.values[number];
      default: return ABSENT;
    }
  }

  public int latest(int stream, int key) {
    if (!isStream(stream)) return REFUSED;
    for (int i = log.events - 1; i >= 0; i--) {
      if (log.streams[i] == stream && log.keys[i] == key) return i;
    }
    return NONE;
  }

  public int define(int fold) {
    if (!isFold(fold)) return REFUSED;
    Program program = grammar.compile(tape);
    tape.length = 0;
    if (program == null) return grammar.fault();
    folds[fold].begin(program);
    return NONE;
  }

  public int run(int fold, int n) {
    if (!isFold(fold) || n < 0 || n > MAX_EVENTS) return REFUSED;
    if (folds[fold].program == null) return NONE;
    for (int done = 0; done < n; done++) {
      if (!folds[fold].advance(log, machine)) return done;
    }
    return n;
  }

  public int rewind(int fold) {
    if (!isFold(fold)) return REFUSED;
    if (folds[fold].program == null) return NONE;
    int place = folds[fold].place;
    folds[fold].begin(folds[fold].program);
    return place;
  }

  public long cell(int fold, int part, int v) {
    if (!isFold(fold) || v < 0 || v >= VARIABLES) return IMPROPER;
    int slot = folds[fold].slotOf(part);
    return folds[fold].holds(slot, part) ? folds[fold].variables[slot * VARIABLES + v] : ABSENT;
  }

  public long part(int fold, int k) {
    if (!isFold(fold)) return IMPROPER;
    return k >= 0 && k < folds[fold].cells ? folds[fold].parts[k] : ABSENT;
  }

  public int fold(int fold, int what) {
    if (!isFold(fold)) return REFUSED;
    Fold asked = folds[fold];
    switch (what) {
      case 0: return asked.program == null ? -1 : asked.place;
      case 1: return asked.cells;
      case 2: return asked.hasNext(log) && !asked.workOut(log, machine) ? 1 : 0;
      default: return REFUSED;
    }
  }

  public int subscribe(int reader, int kinds, int streams, int from) {
    if (!isReader(reader) || from < 0 || from > log.events) return REFUSED;
    readers[reader].begin(kinds & ALL_BITS, streams & ALL_BITS, from);
    return 0;
  }

  public int take(int reader) {
    if (!isReader(reader)) return REFUSED;
    return readers[reader].give(log);
  }

  public int tell(int reader, int event, boolean done) {
    if (!isReader(reader)) return REFUSED;
    Reader told = readers[reader];
    if (!told.isOut(event)) return NONE;
    told.settle(event, done);
    return told.out;
  }

  public int reader(int reader, int what) {
    if (!isReader(reader)) return REFUSED;
    switch (what) {
      case 0: return readers[reader].next;
      case 1: return readers[reader].out;
      case 2: return readers[reader].back;
      case 3: return readers[reader].parking;
      default: return REFUSED;
    }
  }

  public int parked(int reader, int k) {
    if (!isReader(reader)) return REFUSED;
    if (k < 0 || k >= readers[reader].parking) return NONE;
    return readers[reader].find(Reader.PARKED, k);
  }

  public int count(int what) {
    switch (what) {
      case 0: return log.events;
      case 1: return log.keptEvents;
      case 2: return bytes(log.batches, log.events);
      case 3: return bytes(log.batches - log.keptBatches, log.events - log.keptEvents);
      default: return isStream(what - 4) ? log.versions[what - 4] : REFUSED;
    }
  }

  private static boolean isStream(int stream) {
    return stream >= 0 && stream < STREAMS;
  }

  private static boolean isFold(int fold) {
    return fold >= 0 && fold < FOLDS;
  }

  private static boolean isReader(int reader) {
    return reader >= 0 && reader < READERS;
  }

  private static int bytes(int batches, int events) {
    return batches * BATCH_BYTES + events * EVENT_BYTES;
  }

  private static final class Tape {
    final int[] bytes = new int[TAPE_BYTES];
    int length;

    void add(int four) {
      for (int shift = 24; shift >= 0 && length < TAPE_BYTES; shift -= 8) {
        bytes[length++] = four >>> shift & 255;
      }
    }

    /** The byte at a place, or -1 behind the end. */
    int at(int place) {
      return place >= 0 && place < length ? bytes[place] : -1;
    }
  }

  /** The batch that is made up. */
  private static final class Batch {
    final int[] kinds = new int[MAX_BATCH];
    final int[] keys = new int[MAX_BATCH];
    final int[] values = new int[MAX_BATCH];
    int size;

    void add(int kind, int key, int value) {
      kinds[size] = kind;
      keys[size] = key;
      values[size] = value;
      size++;
    }
  }

  /** All events, as batches in the order in which they came. */
  private static final class EventLog {
    final int[] streams = new int[MAX_EVENTS];
    final int[] kinds = new int[MAX_EVENTS];
    final int[] keys = new int[MAX_EVENTS];
    final int[] values = new int[MAX_EVENTS];
    final int[] versions = new int[STREAMS];
    /** How many events there are up to the end of each batch. */
    final int[] batchEnds = new int[MAX_EVENTS];
    int events;
    int batches;
    int keptEvents;
    int keptBatches;

    void write(int stream, Batch batch) {
      for (int i = 0; i < batch.size; i++) {
        streams[events] = stream;
        kinds[events] = batch.kinds[i];
        keys[events] = batch.keys[i];
        values[events] = batch.values[i];
        events++;
      }
      versions[stream] += batch.size;
      batchEnds[batches++] = events;
    }

    void holdAll() {
      keptEvents = events;
      keptBatches = batches;
    }

    /** Behind what is kept only the batches that are whole in n bytes are left, and kept. */
    void loseBehind(int n) {
      int left = keptBatches;
      while (left < batches && bytes(left + 1 - keptBatches, batchEnds[left] - keptEvents) <= n) left++;
      batches = left;
      events = left == 0 ? 0 : batchEnds[left - 1];
      Arrays.fill(versions, 0);
      for (int i = 0; i < events; i++) versions[streams[i]]++;
      holdAll();
    }

    /** The number of a stream's event, or -1 if there is none. */
    int numberOf(int stream, int version) {
      int before = 0;
      for (int i = 0; i < events; i++) {
        if (streams[i] != stream) continue;
        if (before == version) return i;
        before++;
      }
      return -1;
    }
  }

  /** A text cut into tokens, the last of which is END or UNKNOWN; and the one that is looked at. */
  private static final class Tokens {
    private final int[] codes = new int[TAPE_BYTES + 1];
    private final int[] places = new int[TAPE_BYTES + 1];
    private final int[] values = new int[TAPE_BYTES + 1];
    private int size;
    private int current;

    void cut(Tape text) {
      size = 0;
      current = 0;
      int place = 0;
      for (int i = 0; i <= TAPE_BYTES; i++) {
        while (place < text.length && text.at(place) == ' ') place++;
        int length = addToken(text, place);
        if (codes[size - 1] == END || codes[size - 1] == UNKNOWN) return;
        place += length;
      }
    }

    /** Adds the token that begins at a place: its length. */
    private int addToken(Tape text, int place) {
      int first = text.at(place);
      if (isLetter(first)) return addWord(text, place);
      if (isDigit(first)) return addNumber(text, place);
      int code = first < 0 ? END : signCode(first, text.at(place + 1) == '=');
      add(code, place, 0);
      return code == UNEQUAL || code == AT_MOST || code == AT_LEAST ? 2 : 1;
    }

    private int addWord(Tape text, int place) {
      int stop = place;
      while (stop < text.length && isLetter(text.at(stop))) stop++;
      int length = stop - place;
      int letter = text.at(place) - 'a';
      if (length == 1 && letter < VARIABLES) {
        add(VARIABLE, place, letter);
      } else {
        add(length > MAX_WORD ? UNKNOWN : wordCode(text, place, length), place, 0);
      }
      return length;
    }

    private int addNumber(Tape text, int place) {
      long number = 0;
      int stop = place;
      while (stop < text.length && isDigit(text.at(stop))) {
        // Held just above the limit, so that a row of digits of any length can not wrap.
        number = Math.min(number * 10 + text.at(stop) - '0', MAX_NUMBER + 1L);
        stop++;
      }
      add(number > MAX_NUMBER ? UNKNOWN : NUMBER, place, (int) number);
      return stop - place;
    }

    private void add(int code, int place, int value) {
      if (size >= codes.length) return;
      codes[size] = code;
      places[size] = place;
      values[size] = value;
      size++;
    }

    /** A word that the grammar has nowhere can stand nowhere either: it is UNKNOWN. */
    private static int wordCode(Tape text, int place, int length) {
      for (int at = 0; at + WORD_WIDTH <= WORDS.length(); at += WORD_WIDTH) {
        if (isWord(text, place, length, at)) return ALL + at / WORD_WIDTH;
      }
      return UNKNOWN;
    }

    private static boolean isWord(Tape text, int place, int length, int at) {
      if (length > WORD_WIDTH) return false;
      for (int i = 0; i < WORD_WIDTH; i++) {
        int letter = i < length ? text.at(place + i) : ' ';
        if (WORDS.charAt(at + i) != letter) return false;
      }
      return true;
    }

    private static int signCode(int sign, boolean beforeEqual) {
      switch (sign) {
        case ',': case ';': case ':': case '(': case ')': case '+': case '-': case '*': case '/': case '%': case '=':
          return sign;
        case '!': return beforeEqual ? UNEQUAL : UNKNOWN;
        case '<': return beforeEqual ? AT_MOST : sign;
        case '>': return beforeEqual ? AT_LEAST : sign;
        default: return UNKNOWN;
      }
    }

    private static boolean isLetter(int letter) {
      return letter >= 'a' && letter <= 'z';
    }

    private static boolean isDigit(int digit) {
      return digit >= '0' && digit <= '9';
    }

    int code() {
      return codes[current];
    }

    int value() {
      return values[current];
    }

    int place() {
      return places[current];
    }

    void pass() {
      if (current + 1 < size) current++;
    }

    /** Passes the token if it has this code. */
    boolean accept(int code) {
      if (codes[current] != code || current + 1 >= size) return false;
      current++;
      return true;
    }
  }

  /** A rule of a program: its test and its actions are stretches of the program's instructions, one behind the other. */
  private static final class Rule {
    final int kinds;
    final int streams;
    final int test;
    final int actions;
    final int stop;

    Rule(int kinds, int streams, int test, int actions, int stop) {
      this.kinds = kinds;
      this.streams = streams;
      this.test = test;
      this.actions = actions;
      this.stop = stop;
    }

    boolean covers(int kind, int stream) {
      return (kinds >> kind & 1) == 1 && (streams >> stream & 1) == 1;
    }
  }

  /** What a text says; it never changes, so that a fold and what is kept of it can share it. */
  private static final class Program {
    /** The number of the machine's field that tells the part. */
    final int by;
    final Rule[] rules;
    final int[] codes;
    final int[] values;

    Program(int by, Rule[] rules, int[] codes, int[] values) {
      this.by = by;
      this.rules = rules;
      this.codes = codes;
      this.values = values;
    }
  }

  /**
   * Makes a program of a text. Each method for a piece of the grammar answers whether the piece stands there; if not, the
   * token that is looked at is the one at fault. Depth: how many brackets, nots and minuses stand around.
   */
  private static final class Grammar {
    private final Tokens tokens = new Tokens();
    private final int[] codes = new int[TAPE_BYTES];
    private final int[] values = new int[TAPE_BYTES];
    private final Rule[] rules = new Rule[MAX_RULES];
    private int length;
    private int rulesRead;
    private int atoms;
    private int by;

    /** The program, or null if the text has a fault. */
    Program compile(Tape text) {
      tokens.cut(text);
      length = 0;
      rulesRead = 0;
      atoms = 0;
      if (!heading()) return null;
      for (int i = 0; i < MAX_RULES; i++) {
        if (!rule()) return null;
        rulesRead++;
        if (tokens.code() == END) return finished();
      }
      return null;
    }

    private Program finished() {
      Rule[] read = new Rule[rulesRead];
      for (int i = 0; i < rulesRead; i++) read[i] = rules[i];
      return new Program(by, read, Arrays.copyOf(codes, length), Arrays.copyOf(values, length));
    }

    int fault() {
      return tokens.place();
    }

    private boolean heading() {
      if (!tokens.accept(BY)) return false;
      int code = tokens.code();
      if (code != KEY && code != STREAM && code != KIND && code != ALL) return false;
      by = code - ALL;
      tokens.pass();
      return tokens.accept(';');
    }

    private boolean rule() {
      if (!tokens.accept(ON)) return false;
      int kinds = bits();
      if (kinds == 0) return false;
      int streams = tokens.accept(FROM) ? bits() : ALL_BITS;
      if (streams == 0) return false;
      int test = length;
      if (tokens.accept(WHERE) && !test(0)) return false;
      int actions = length;
      if (!tokens.accept(':') || !actions()) return false;
      rules[rulesRead] = new Rule(kinds, streams, test, actions, length);
      return true;
    }

    /** A set of numbers 0 to 7, which is never empty; 0 with a fault. */
    private int bits() {
      if (tokens.accept(ANY)) return ALL_BITS;
      int bits = 0;
      int least = 0;
      while (least <= KINDS && tokens.code() == NUMBER) {
        int number = tokens.value();
        if (number < least || number >= KINDS) return 0;
        bits |= 1 << number;
        least = number + 1;
        tokens.pass();
      }
      return bits;
    }

    private boolean actions() {
      for (int i = 0; i < MAX_ACTIONS; i++) {
        if (!action()) return false;
        if (tokens.accept(';')) return true;
        if (!tokens.accept(',')) return false;
      }
      return false;
    }

    private boolean action() {
      if (tokens.accept(FORGET)) return emit(FORGET, 0);
      int variable = tokens.value();
      return tokens.accept(VARIABLE) && tokens.accept('=') && sum(0) && emit(SET, variable);
    }

    private boolean test(int depth) {
      if (!both(depth)) return false;
      for (int i = 0; i < TAPE_BYTES && tokens.accept(OR); i++) {
        if (!both(depth) || !emit(OR, 0)) return false;
      }
      return true;
    }

    private boolean both(int depth) {
      if (!denial(depth)) return false;
      for (int i = 0; i < TAPE_BYTES && tokens.accept(AND); i++) {
        if (!denial(depth) || !emit(AND, 0)) return false;
      }
      return true;
    }

    /** The grammar's NOT. */
    private boolean denial(int depth) {
      int code = tokens.code();
      if (depth >= MAX_DEPTH && (code == NOT || code == '(')) return false;
      if (tokens.accept(NOT)) return denial(depth + 1) && emit(NOT, 0);
      if (tokens.accept('(')) return test(depth + 1) && tokens.accept(')');
      if (tokens.accept(FRESH)) return emit(FRESH, 0);
      return comparison(depth);
    }

    private boolean comparison(int depth) {
      if (!sum(depth)) return false;
      int sign = tokens.code();
      switch (sign) {
        case '=': case '<': case '>': case UNEQUAL: case AT_MOST: case AT_LEAST:
          tokens.pass();
          return sum(depth) && emit(sign, 0);
        default: return false;
      }
    }

    private boolean sum(int depth) {
      if (!term(depth)) return false;
      for (int i = 0; i < TAPE_BYTES; i++) {
        int sign = tokens.code();
        if (sign != '+' && sign != '-') return true;
        tokens.pass();
        if (!term(depth) || !emit(sign, 0)) return false;
      }
      return false;
    }

    private boolean term(int depth) {
      if (!atom(depth)) return false;
      for (int i = 0; i < TAPE_BYTES; i++) {
        int sign = tokens.code();
        if (sign != '*' && sign != '/' && sign != '%') return true;
        tokens.pass();
        if (!atom(depth) || !emit(sign, 0)) return false;
      }
      return false;
    }

    private boolean atom(int depth) {
      int code = tokens.code();
      switch (code) {
        case NUMBER: case VARIABLE:
          return operand(code, tokens.value());
        case KEY: case STREAM: case KIND: case VALUE: case PLACE:
          return operand(FIELD, code - ALL);
        case LEAST: case MOST:
          tokens.pass();
          return pair(depth) && emit(code, 0);
        case '-':
          return negation(depth) && emit(NEGATE, 0);
        case '(':
          return bracket(depth);
        default:
          return false;
      }
    }

    private boolean operand(int code, int value) {
      if (atoms >= MAX_ATOMS) return false;
      atoms++;
      tokens.pass();
      return emit(code, value);
    }

    private boolean pair(int depth) {
      if (depth >= MAX_DEPTH || !tokens.accept('(')) return false;
      return sum(depth + 1) && tokens.accept(',') && sum(depth + 1) && tokens.accept(')');
    }

    private boolean negation(int depth) {
      if (depth >= MAX_DEPTH) return false;
      tokens.pass();
      return atom(depth + 1);
    }

    private boolean bracket(int depth) {
      if (depth >= MAX_DEPTH) return false;
      tokens.pass();
      return sum(depth + 1) && tokens.accept(')');
    }

    /** Adds an instruction: always true, as each comes of a token of its own, and a text has no more tokens than bytes. */
    private boolean emit(int code, int value) {
      if (length >= TAPE_BYTES) return false;
      codes[length] = code;
      values[length] = value;
      length++;
      return true;
    }
  }

  /** Does a program's instructions for one event and one cell, of which it has a copy. */
  private static final class Machine {
    /** Eight levels of brackets, each with at most four values that wait. */
    private static final int STACK = 64;

    private final int[] stack = new int[STACK];
    private int top;
    /** Of the event: 0 (the part of ALL), key, stream, kind, value, place, in the order of their words. */
    final int[] fields = new int[PLACE - ALL + 1];
    final int[] variables = new int[VARIABLES];
    boolean present;

    void lookAt(EventLog log, int number) {
      fields[KEY - ALL] = log.keys[number];
      fields[STREAM - ALL] = log.streams[number];
      fields[KIND - ALL] = log.kinds[number];
      fields[VALUE - ALL] = log.values[number];
      fields[PLACE - ALL] = number;
    }

    void noCell() {
      present = false;
      Arrays.fill(variables, 0);
    }

    void copyCell(int[] from, int start) {
      present = true;
      System.arraycopy(from, start, variables, 0, VARIABLES);
    }

    /** Does the actions of the first rule that fits. */
    void follow(Program program) {
      for (int i = 0; i < program.rules.length; i++) {
        Rule rule = program.rules[i];
        if (rule.covers(fields[KIND - ALL], fields[STREAM - ALL]) && passes(program, rule)) {
          execute(program, rule.actions, rule.stop);
          return;
        }
      }
    }

    private boolean passes(Program program, Rule rule) {
      if (rule.test == rule.actions) return true;
      execute(program, rule.test, rule.actions);
      return pop() == 1;
    }

    private void execute(Program program, int start, int stop) {
      top = 0;
      for (int i = start; i < stop; i++) {
        int value = program.values[i];
        switch (program.codes[i]) {
          case NUMBER: push(value); break;
          case VARIABLE: push(variables[value]); break;
          case FIELD: push(fields[value]); break;
          case FRESH: push(present ? 0 : 1); break;
          case NEGATE: push(-pop()); break;
          case NOT: push(1 - pop()); break;
          case FORGET: noCell(); break;
          case SET:
            present = true;
            variables[value] = pop();
            break;
          default:
            int right = pop();
            int left = pop();
            push(joined(program.codes[i], left, right));
        }
      }
    }

    private static int joined(int code, int left, int right) {
      switch (code) {
        case '+': return left + right;
        case '-': return left - right;
        case '*': return left * right;
        case '/': return right == 0 ? 0 : left / right;
        case '%': return right == 0 ? 0 : left % right;
        case LEAST: return Math.min(left, right);
        case MOST: return Math.max(left, right);
        case AND: return left & right;
        case OR: return left | right;
        case '=': return left == right ? 1 : 0;
        case UNEQUAL: return left != right ? 1 : 0;
        case '<': return left < right ? 1 : 0;
        case AT_MOST: return left <= right ? 1 : 0;
        case '>': return left > right ? 1 : 0;
        default: return left >= right ? 1 : 0;
      }
    }

    private void push(int value) {
      if (top < STACK) stack[top++] = value;
    }

    private int pop() {
      return top > 0 ? stack[--top] : 0;
    }
  }

  /** A fold; its cells stand by rising parts. */
  private static final class Fold {
    Program program;
    int place;
    int cells;
    final int[] parts = new int[MAX_CELLS];
    final int[] variables = new int[MAX_CELLS * VARIABLES];

    void begin(Program its) {
      program = its;
      place = 0;
      cells = 0;
    }

    void becomeLike(Fold other) {
      program = other.program;
      place = other.place;
      cells = other.cells;
      System.arraycopy(other.parts, 0, parts, 0, cells);
      System.arraycopy(other.variables, 0, variables, 0, cells * VARIABLES);
    }

    /** The slot where the cell of a part is, or would be put. */
    int slotOf(int part) {
      int slot = 0;
      while (slot < cells && parts[slot] < part) slot++;
      return slot;
    }

    boolean holds(int slot, int part) {
      return slot < cells && parts[slot] == part;
    }

    boolean hasNext(EventLog log) {
      return program != null && place < log.events;
    }

    /** Takes the next event: false if there is none, or the fold is stuck. */
    boolean advance(EventLog log, Machine machine) {
      if (!hasNext(log) || !workOut(log, machine)) return false;
      putCell(machine, machine.fields[program.by]);
      place++;
      return true;
    }

    /** Lets the machine have what the next event makes of its cell, without a change here: false if it is stuck. */
    boolean workOut(EventLog log, Machine machine) {
      machine.lookAt(log, place);
      int part = machine.fields[program.by];
      int slot = slotOf(part);
      boolean held = holds(slot, part);
      if (held) {
        machine.copyCell(variables, slot * VARIABLES);
      } else {
        machine.noCell();
      }
      machine.follow(program);
      return held || !machine.present || cells < MAX_CELLS;
    }

    private void putCell(Machine machine, int part) {
      int slot = slotOf(part);
      boolean held = holds(slot, part);
      if (held && !machine.present) closeSlot(slot);
      if (!held && machine.present) openSlot(slot, part);
      if (machine.present) System.arraycopy(machine.variables, 0, variables, slot * VARIABLES, VARIABLES);
    }

    private void openSlot(int slot, int part) {
      moveCells(slot, slot + 1);
      parts[slot] = part;
      cells++;
    }

    private void closeSlot(int slot) {
      moveCells(slot + 1, slot);
      cells--;
    }

    /** Moves all cells from a slot on. */
    private void moveCells(int from, int to) {
      System.arraycopy(parts, from, parts, to, cells - from);
      System.arraycopy(variables, from * VARIABLES, variables, to * VARIABLES, (cells - from) * VARIABLES);
    }
  }

  private static final class Reader {
    static final int UNTOUCHED = 0;
    static final int OUT = 1;
    static final int BACK = 2;
    static final int PARKED = 3;

    int kinds;
    int streams;
    int next;
    int out;
    int back;
    int parking;
    /** Of each event, what it is for this reader, and how often it was given. */
    final int[] states = new int[MAX_EVENTS];
    final int[] given = new int[MAX_EVENTS];

    void begin(int itsKinds, int itsStreams, int from) {
      kinds = itsKinds;
      streams = itsStreams;
      next = from;
      out = 0;
      back = 0;
      parking = 0;
      Arrays.fill(states, UNTOUCHED);
      Arrays.fill(given, 0);
    }

    void becomeLike(Reader other) {
      kinds = other.kinds;
      streams = other.streams;
      next = other.next;
      out = other.out;
      back = other.back;
      parking = other.parking;
      System.arraycopy(other.states, 0, states, 0, MAX_EVENTS);
      System.arraycopy(other.given, 0, given, 0, MAX_EVENTS);
    }

    void putOutBack() {
      for (int i = 0; i < MAX_EVENTS; i++) {
        if (states[i] == OUT) states[i] = BACK;
      }
      back += out;
      out = 0;
    }

    /** The event that is given, or FULL or NONE. */
    int give(EventLog log) {
      if (out >= MAX_OUT) return FULL;
      int event;
      if (back > 0) {
        event = find(BACK, 0);
        back--;
      } else {
        event = findNew(log);
      }
      if (event < 0) return NONE;
      states[event] = OUT;
      given[event]++;
      out++;
      return event;
    }

    private int findNew(EventLog log) {
      while (next < log.events) {
        int event = next++;
        if ((kinds >> log.kinds[event] & 1) == 1 && (streams >> log.streams[event] & 1) == 1) return event;
      }
      return NONE;
    }

    /** The k-th event, from 0, that has a state. */
    int find(int state, int k) {
      int before = 0;
      for (int i = 0; i < MAX_EVENTS; i++) {
        if (states[i] != state) continue;
        if (before == k) return i;
        before++;
      }
      return NONE;
    }

    boolean isOut(int event) {
      return event >= 0 && event < MAX_EVENTS && states[event] == OUT;
    }

    void settle(int event, boolean done) {
      out--;
      if (done) {
        states[event] = UNTOUCHED;
      } else if (given[event] >= PARKING) {
        states[event] = PARKED;
        parking++;
      } else {
        states[event] = BACK;
        back++;
      }
    }
  }
}
