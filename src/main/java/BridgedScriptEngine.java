public final class BridgedScriptEngine {
    public static final int OK = 0;
    public static final int SYNTAX = 1;
    public static final int LIMIT = 2;
    public static final int DONE = 0;
    public static final int THROWN = 1;
    public static final int STOPPED = 2;
    public static final int NOT_LOADED = 3;
    public static final int NO_FUNCTION = 4;

    // Token kinds, numbered as the document does.
    private static final int T_END_OF_SOURCE = -1;
    private static final int T_NAME = 0;
    private static final int T_NUMBER = 1;
    private static final int T_SEMICOLON = 2;
    private static final int T_COMMA = 3;
    private static final int T_OPEN = 4;
    private static final int T_CLOSE = 5;
    private static final int T_OPEN_BRACE = 6;
    private static final int T_CLOSE_BRACE = 7;
    private static final int T_DOT = 8;
    private static final int T_QUESTION = 9;
    private static final int T_COLON = 10;
    private static final int T_ASSIGN = 11;
    private static final int T_ADD_ASSIGN = 12;
    private static final int T_SUBTRACT_ASSIGN = 13;
    private static final int T_MULTIPLY_ASSIGN = 14;
    private static final int T_AND_ASSIGN = 15;
    private static final int T_OR_ELSE = 16;
    private static final int T_AND_THEN = 17;
    private static final int T_BIT_OR = 18;
    private static final int T_BIT_XOR = 19;
    private static final int T_BIT_AND = 20;
    private static final int T_EQUAL = 21;
    private static final int T_UNEQUAL = 22;
    private static final int T_IDENTICAL = 23;
    private static final int T_NOT_IDENTICAL = 24;
    private static final int T_LESS = 25;
    private static final int T_GREATER = 26;
    private static final int T_AT_MOST = 27;
    private static final int T_AT_LEAST = 28;
    private static final int T_SHIFT_LEFT = 29;
    private static final int T_SHIFT_RIGHT = 30;
    private static final int T_SHIFT_UNSIGNED = 31;
    private static final int T_PLUS = 32;
    private static final int T_MINUS = 33;
    private static final int T_TIMES = 34;
    private static final int T_DIVIDE = 35;
    private static final int T_REMAINDER = 36;
    private static final int T_NOT = 37;
    private static final int T_COMPLEMENT = 38;
    private static final int T_VAR = 39;
    private static final int T_FUNCTION = 40;
    private static final int T_RETURN = 41;
    private static final int T_IF = 42;
    private static final int T_ELSE = 43;
    private static final int T_WHILE = 44;
    private static final int T_BREAK = 45;
    private static final int T_CONTINUE = 46;
    private static final int T_THROW = 47;
    private static final int T_TRY = 48;
    private static final int T_CATCH = 49;
    private static final int T_TRUE = 50;
    private static final int T_FALSE = 51;
    private static final int T_NULL = 52;
    private static final int T_UNDEFINED = 53;
    private static final int T_HOST = 54;
    private static final int T_LINE_END = 55;

    // Value kinds. A value is one long: its kind above 32 bits of payload, the form that result() answers.
    private static final int K_UNDEFINED = 0;
    private static final int K_NULL = 1;
    private static final int K_BOOL = 2;
    private static final int K_NUM = 3;
    private static final int K_OBJ = 4;
    private static final int K_ERR = 5;
    private static final int K_ABSENT = 6;
    private static final long UNDEFINED = 0L;
    private static final long ABSENT = 6L << 32;
    private static final long PAYLOAD_MASK = 0xFFFFFFFFL;

    // Codes of the errors that the engine throws.
    private static final int E_WRONG_TYPE = 1;
    private static final int E_ABSENT_GLOBAL = 2;
    private static final int E_NO_ROOM = 3;
    private static final int E_DIVISION = 4;
    private static final int E_NO_METHOD = 5;
    private static final int E_SEVERAL_METHODS = 6;
    private static final int E_HOST = 7;

    // Parameter kinds of host methods.
    private static final int P_NONE = 0;
    private static final int P_BOOLEAN = 1;
    private static final int P_BYTE = 2;
    private static final int P_SHORT = 3;
    private static final int P_CHAR = 4;
    private static final int P_INT = 5;
    private static final int P_LONG = 6;
    private static final int P_ANY = 7;

    // One more than the greatest rank that an argument has.
    private static final int NO_RANK_YET = 7;

    // What a host method does after it has been called.
    private static final int R_UNDEFINED = 0;
    private static final int R_ODD = 1;
    private static final int R_FOLDED = 2;
    private static final int R_THROWS = 3;
    private static final int R_NULL = 4;

    // Limits of the document.
    private static final int NAME_COUNT = 26;
    private static final int MAX_TOKENS = 160;
    private static final int MAX_METHODS = 12;
    private static final int MAX_FUNCTIONS = 6;
    private static final int MAX_NESTING = 3;
    private static final int MAX_OWN_NAMES = 6;
    private static final int MAX_ARGUMENTS = 3;
    private static final int MAX_HOST_ARGUMENTS = 2;
    private static final int MAX_LOOPS = 8;
    private static final int MAX_TRIES = 6;
    private static final int MAX_OBJECTS = 48;
    private static final int MAX_PROPERTIES = 4;
    private static final int MAX_CALLS = 8;
    private static final int MAX_OUTER_CALLS = 60;
    private static final int MAX_TICKS = 64;
    private static final int TRACE_KEPT = 32;

    // No check and no run comes near this number of steps: 160 tokens and 64 ticks bound both far below it.
    private static final int STEP_BOUND = 1000000;

    // Layout of the tables: each row has a number of cells, and a table is as long as rows times cells.
    private static final int TOKEN_CELLS = 3;
    private static final int TOKEN_VALUE = 1;
    private static final int TOKEN_AFTER_LINE = 2;
    private static final int TOKENS_LENGTH = 480;

    private static final int METHOD_CELLS = 4;
    private static final int METHOD_FIRST = 1;
    private static final int METHOD_SECOND = 2;
    private static final int METHOD_RESULT = 3;
    private static final int METHODS_LENGTH = 48;

    private static final int TRACE_CELLS = 3;
    private static final int TRACE_MASK = 31;
    private static final int TRACE_LENGTH = 96;

    private static final int CODE_CELLS = 2;
    private static final int MAX_CODE = 1024;
    private static final int CODE_LENGTH = 2048;

    private static final int FUNCTION_CELLS = 11;
    private static final int FUNCTION_PARENT = 0;
    private static final int FUNCTION_NESTING = 1;
    private static final int FUNCTION_START = 2;
    private static final int FUNCTION_OWN = 3;
    private static final int FUNCTION_OWN_COUNT = 4;
    private static final int FUNCTION_NAME = 5;
    private static final int FUNCTION_IS_OUTER = 6;
    private static final int FUNCTION_PARAMETERS = 7;
    private static final int FUNCTION_FIRST_PARAMETER = 8;
    private static final int FUNCTIONS_LENGTH = 77;

    private static final int LOOP_CELLS = 2;
    private static final int LOOP_AFTER = 1;
    private static final int LOOPS_LENGTH = 16;

    private static final int TRY_CELLS = 4;
    private static final int TRY_START = 1;
    private static final int TRY_AFTER = 2;
    private static final int TRY_HANDLER = 3;
    private static final int TRIES_LENGTH = 24;

    private static final int STATE_CELLS = 3;
    private static final int MAX_STATES = 2048;
    private static final int STATES_LENGTH = 6144;

    private static final int OBJECT_CELLS = 7;
    private static final int OBJECT_SCOPE = 1;
    private static final int OBJECT_COUNT = 2;
    private static final int OBJECT_FIRST_NAME = 3;
    private static final int OBJECTS_LENGTH = 336;
    private static final int PROPERTIES_LENGTH = 192;

    // 60 calls of functions with inner ones keep a scope each until the next run; the others need one only
    // while they are active, so 8 more are enough.
    private static final int MAX_SCOPES = 68;
    private static final int SCOPE_CELLS = 2;
    private static final int SCOPE_PARENT = 1;
    private static final int SCOPES_LENGTH = 136;
    private static final int SCOPE_VALUES_LENGTH = 1768;

    private static final int FRAME_CELLS = 4;
    private static final int FRAME_SCOPE = 1;
    private static final int FRAME_BASE = 2;
    private static final int FRAME_RETURN = 3;
    private static final int FRAMES_LENGTH = 36;

    private static final int MAX_OPERANDS = 2048;

    // The program counts as function 0; as the function of an object, 0 means that it is none.
    private static final int PROGRAM = 0;
    private static final int NONE = -1;
    private static final int SEVERAL = -2;
    private static final int RUNNING = -1;

    // Instructions. The first four push a value of the kind with the same number.
    private static final int OP_UNDEFINED = 0;
    private static final int OP_NULL = 1;
    private static final int OP_BOOL = 2;
    private static final int OP_NUM = 3;
    private static final int OP_READ_NAME = 4;
    private static final int OP_STORE_NAME = 5;
    private static final int OP_POP = 6;
    private static final int OP_UNARY = 7;
    private static final int OP_BINARY = 8;
    private static final int OP_JUMP = 9;
    private static final int OP_JUMP_IF_FALSE = 10;
    private static final int OP_KEEP_IF_TRUE = 11;
    private static final int OP_KEEP_IF_FALSE = 12;
    private static final int OP_LOOP_START = 13;
    private static final int OP_LOOP_AFTER = 14;
    private static final int OP_TICK = 15;
    private static final int OP_NEW_OBJECT = 16;
    private static final int OP_NEW_FUNCTION = 17;
    private static final int OP_READ_PROPERTY = 18;
    private static final int OP_NEED_OBJECT = 19;
    private static final int OP_READ_AND_KEEP = 20;
    private static final int OP_STORE_PROPERTY = 21;
    private static final int OP_FILL_PROPERTY = 22;
    private static final int OP_CALL = 23;
    private static final int OP_HOST = 24;
    private static final int OP_RETURN = 25;
    private static final int OP_THROW = 26;
    private static final int OP_FINISH = 27;

    // A host call's one argument holds its name and, below this step, its number of arguments.
    private static final int HOST_NAME_STEP = 4;

    // Every code begins with a call and its end, so that call() enters a function as a script does.
    private static final int CALL_ENTRY = 0;
    private static final int ENTRY_ARGUMENTS = 2;

    // What the check of a source still has to do; a stack of these stands in for recursion.
    private static final int S_PROGRAM = 0;
    private static final int S_BODY = 1;
    private static final int S_ITEM = 2;
    private static final int S_BLOCK = 3;
    private static final int S_STATEMENT = 4;
    private static final int S_END = 5;
    private static final int S_IF_THEN = 6;
    private static final int S_IF_ELSE = 7;
    private static final int S_WHILE_BODY = 8;
    private static final int S_WHILE_AFTER = 9;
    private static final int S_CATCH = 10;
    private static final int S_PARAMETER = 11;
    private static final int S_ASSIGN = 12;
    private static final int S_CONDITIONAL = 13;
    private static final int S_COLON = 14;
    private static final int S_BINARY = 15;
    private static final int S_UNARY = 16;
    private static final int S_PRIMARY = 17;
    private static final int S_POSTFIX = 18;
    private static final int S_CLOSE = 19;
    private static final int S_ARGUMENTS = 20;
    private static final int S_ARGUMENT = 21;
    private static final int S_PROPERTY = 22;
    private static final int S_PROPERTY_AFTER = 23;
    private static final int S_EMIT = 24;
    private static final int S_PATCH = 25;

    // Whether the operand being read may turn out to be the target of an assignment.
    private static final int MAY_BE_TARGET = 1;
    private static final int NO_TARGET = 0;

    private final int[] tokens = new int[TOKENS_LENGTH];
    private int tokenCount;
    private boolean lineEndPending;
    private boolean loaded;
    private int errorPlace;

    private final int[] methods = new int[METHODS_LENGTH];
    private int methodCount;
    private long hostMemory;
    private final long[] trace = new long[TRACE_LENGTH];
    private int traceTotal;

    private final int[] code = new int[CODE_LENGTH];
    private int codeCount;
    private final int[] functions = new int[FUNCTIONS_LENGTH];
    private int functionCount;
    private final int[] loops = new int[LOOPS_LENGTH];
    private int loopCount;
    private final int[] tries = new int[TRIES_LENGTH];
    private int tryCount;

    private final int[] states = new int[STATES_LENGTH];
    private int stateCount;
    private int position;
    private int checkAnswer;
    private int currentFunction;
    private int currentLoop;

    private final long[] globals = new long[NAME_COUNT];
    private final int[] objects = new int[OBJECTS_LENGTH];
    private final long[] properties = new long[PROPERTIES_LENGTH];
    private int objectCount;
    private final int[] scopes = new int[SCOPES_LENGTH];
    private final long[] scopeValues = new long[SCOPE_VALUES_LENGTH];
    private int outerCalls;

    private final long[] operands = new long[MAX_OPERANDS];
    private int operandCount;
    private final int[] frames = new int[FRAMES_LENGTH];
    private int activeCalls;
    private int nextInstruction;
    private int ticksLeft;
    private long thrown;
    private int status;
    private long lastResult;

    public BridgedScriptEngine() {
        errorPlace = NONE;
        clearWorld();
    }

    public boolean token(int kind, int value) {
        if (kind < T_NAME || kind > T_LINE_END || tokenCount >= MAX_TOKENS) {
            return false;
        }
        if (kind == T_NAME && !isName(value) || kind == T_NUMBER && value < 0) {
            return false;
        }
        loaded = false;
        if (kind == T_LINE_END) {
            lineEndPending = true;
            return true;
        }
        int row = tokenCount * TOKEN_CELLS;
        tokens[row] = kind;
        tokens[row + TOKEN_VALUE] = value;
        tokens[row + TOKEN_AFTER_LINE] = lineEndPending ? 1 : 0;
        lineEndPending = false;
        tokenCount++;
        return true;
    }

    public int wipe() {
        int removed = tokenCount;
        tokenCount = 0;
        lineEndPending = false;
        loaded = false;
        return removed;
    }

    public int overload(int name, int first, int second, int result) {
        boolean kindsFit = first >= P_NONE && first <= P_ANY && second >= P_NONE && second <= P_ANY;
        if (!isName(name) || !kindsFit || first == P_NONE && second != P_NONE) {
            return NONE;
        }
        if (result < R_UNDEFINED || result > R_NULL || methodCount >= MAX_METHODS) {
            return NONE;
        }
        for (int row = 0; row < methodCount * METHOD_CELLS; row += METHOD_CELLS) {
            boolean sameKinds = methods[row + METHOD_FIRST] == first && methods[row + METHOD_SECOND] == second;
            if (methods[row] == name && sameKinds) {
                return NONE;
            }
        }
        int added = methodCount * METHOD_CELLS;
        methods[added] = name;
        methods[added + METHOD_FIRST] = first;
        methods[added + METHOD_SECOND] = second;
        methods[added + METHOD_RESULT] = result;
        methodCount++;
        return methodCount - 1;
    }

    public int load() {
        clearWorld();
        beginCheck();
        checkSource();
        loaded = checkAnswer == OK;
        return checkAnswer;
    }

    public int errorAt() {
        return errorPlace;
    }

    public int run() {
        if (!loaded) {
            return NOT_LOADED;
        }
        clearWorld();
        int own = functions[FUNCTION_OWN];
        for (int name = 0; name < NAME_COUNT; name++) {
            if ((own >> name & 1) == 1) {
                globals[name] = UNDEFINED;
            }
        }
        beginExecution(functions[FUNCTION_START]);
        makeDeclaredFunctions(PROGRAM, NONE);
        execute();
        return status;
    }

    public int call(int f, int a, int b) {
        if (!loaded) {
            return NOT_LOADED;
        }
        long callee = globalValue(f);
        if (functionOf(callee) == PROGRAM) {
            return NO_FUNCTION;
        }
        beginExecution(CALL_ENTRY);
        push(callee);
        pushValue(K_NUM, a);
        pushValue(K_NUM, b);
        execute();
        return status;
    }

    public long result() {
        return shown(lastResult);
    }

    public long global(int g) {
        long value = globalValue(g);
        return shown(value);
    }

    public long prop(int g, int p) {
        long holder = globalValue(g);
        if (kindOf(holder) != K_OBJ) {
            return ABSENT;
        }
        int place = findProperty(holder, p);
        if (place == NONE) {
            return ABSENT;
        }
        return shown(properties[place]);
    }

    public int propName(int g, int i) {
        long holder = globalValue(g);
        if (kindOf(holder) != K_OBJ) {
            return NONE;
        }
        int row = objectRow(holder);
        if (i < 0 || i >= MAX_PROPERTIES || i >= objects[row + OBJECT_COUNT]) {
            return NONE;
        }
        return objects[row + OBJECT_FIRST_NAME + i];
    }

    public boolean same(int g, int h) {
        long one = globalValue(g);
        long other = globalValue(h);
        return kindOf(one) == K_OBJ && one == other;
    }

    public int traceCount() {
        return traceTotal;
    }

    public int traceMethod(int k) {
        int row = traceRow(k);
        return row == NONE ? NONE : (int) trace[row];
    }

    public long traceArg(int k, int which) {
        int row = traceRow(k);
        if (row == NONE || which < 0 || which >= MAX_HOST_ARGUMENTS) {
            return 0L;
        }
        return trace[row + 1 + which];
    }

    // ---- the world ----

    private void clearWorld() {
        for (int name = 0; name < NAME_COUNT; name++) {
            globals[name] = ABSENT;
        }
        objectCount = 0;
        outerCalls = 0;
        traceTotal = 0;
        hostMemory = 0L;
        lastResult = UNDEFINED;
    }

    private boolean isName(int value) {
        return value >= 0 && value < NAME_COUNT;
    }

    private long globalValue(int name) {
        return isName(name) ? globals[name] : ABSENT;
    }

    private int traceRow(int k) {
        if (k < 0 || k >= TRACE_KEPT || k >= traceTotal) {
            return NONE;
        }
        return (traceTotal - 1 - k & TRACE_MASK) * TRACE_CELLS;
    }

    private int kindOf(long value) {
        return (int) (value >>> 32);
    }

    private long valueOf(int kind, int payload) {
        return (long) kind << 32 | payload & PAYLOAD_MASK;
    }

    private long shown(long value) {
        if (kindOf(value) != K_OBJ) {
            return value;
        }
        int row = objectRow(value);
        int isFunction = objects[row] == PROGRAM ? 0 : 1;
        return valueOf(K_OBJ, 2 * objects[row + OBJECT_COUNT] + isFunction);
    }

    // An index outside its table would throw, so each table's row is looked at where its number becomes an index.
    private int objectRow(long value) {
        int number = (int) value;
        return number >= 0 && number < MAX_OBJECTS ? number * OBJECT_CELLS : 0;
    }

    private int functionOf(long value) {
        if (kindOf(value) != K_OBJ) {
            return PROGRAM;
        }
        return objects[objectRow(value)];
    }

    private int findProperty(long holder, int name) {
        int row = objectRow(holder);
        for (int i = 0; i < MAX_PROPERTIES && i < objects[row + OBJECT_COUNT]; i++) {
            if (objects[row + OBJECT_FIRST_NAME + i] == name) {
                return row / OBJECT_CELLS * MAX_PROPERTIES + i;
            }
        }
        return NONE;
    }

    private void storeProperty(long holder, int name, long value) {
        int place = findProperty(holder, name);
        if (place != NONE) {
            properties[place] = value;
            return;
        }
        int row = objectRow(holder);
        int count = objects[row + OBJECT_COUNT];
        if (count < 0 || count >= MAX_PROPERTIES) {
            raise(E_NO_ROOM);
            return;
        }
        objects[row + OBJECT_FIRST_NAME + count] = name;
        properties[row / OBJECT_CELLS * MAX_PROPERTIES + count] = value;
        objects[row + OBJECT_COUNT] = count + 1;
    }

    private long makeObject(int function, int scope) {
        if (objectCount >= MAX_OBJECTS) {
            raise(E_NO_ROOM);
            return UNDEFINED;
        }
        int row = objectCount * OBJECT_CELLS;
        objects[row] = function;
        objects[row + OBJECT_SCOPE] = scope;
        objects[row + OBJECT_COUNT] = 0;
        objectCount++;
        return (long) K_OBJ << 32 | objectCount - 1;
    }

    // ---- checking the source: the stack of what is still to be read ----

    private void beginCheck() {
        checkAnswer = OK;
        errorPlace = NONE;
        position = 0;
        codeCount = 0;
        functionCount = 0;
        loopCount = 0;
        tryCount = 0;
        currentFunction = PROGRAM;
        currentLoop = NONE;
        emit(OP_CALL, ENTRY_ARGUMENTS);
        emit(OP_FINISH, 0);
        openFunction(PROGRAM, NONE, 0, NONE);
        stateCount = 0;
        pushState(S_PROGRAM, 0, 0);
    }

    private void checkSource() {
        for (int steps = 0; steps < STEP_BOUND && stateCount > 0 && checkAnswer == OK; steps++) {
            stateCount--;
            int row = stateCount * STATE_CELLS;
            int a = states[row + 1];
            int b = states[row + 2];
            switch (states[row]) {
                case S_PROGRAM: resumeProgram(); break;
                case S_BODY: resumeBody(a, b); break;
                case S_ITEM: beginItem(); break;
                case S_BLOCK: resumeBlock(); break;
                case S_STATEMENT: beginStatement(); break;
                case S_END: endStatement(); break;
                case S_IF_THEN: resumeIf(); break;
                case S_IF_ELSE: resumeElse(a); break;
                case S_WHILE_BODY: resumeWhile(a); break;
                case S_WHILE_AFTER: endWhile(a, b); break;
                case S_CATCH: resumeCatch(a); break;
                case S_PARAMETER: readParameter(); break;
                case S_ASSIGN: beginAssign(); break;
                case S_CONDITIONAL: resumeConditional(); break;
                case S_COLON: resumeColon(a); break;
                case S_BINARY: resumeBinary(a); break;
                case S_UNARY: beginUnary(a); break;
                case S_PRIMARY: beginPrimary(); break;
                case S_POSTFIX: resumePostfix(a); break;
                case S_CLOSE: require(T_CLOSE); break;
                case S_ARGUMENTS: beginArguments(a); break;
                case S_ARGUMENT: resumeArguments(a, b); break;
                case S_PROPERTY: beginProperty(); break;
                case S_PROPERTY_AFTER: resumeProperties(a); break;
                case S_EMIT: emit(a, b); break;
                default: patch(a); break;
            }
        }
    }

    private void pushState(int state, int a, int b) {
        if (stateCount < MAX_STATES) {
            int row = stateCount * STATE_CELLS;
            states[row] = state;
            states[row + 1] = a;
            states[row + 2] = b;
            stateCount++;
        }
    }

    private void fail(int answer) {
        if (checkAnswer == OK) {
            checkAnswer = answer;
            errorPlace = position;
        }
    }

    private int kindHere() {
        return position < tokenCount ? tokens[position * TOKEN_CELLS] : T_END_OF_SOURCE;
    }

    private int valueHere() {
        return position < tokenCount ? tokens[position * TOKEN_CELLS + TOKEN_VALUE] : 0;
    }

    private boolean isAfterLineEnd() {
        return position < tokenCount && tokens[position * TOKEN_CELLS + TOKEN_AFTER_LINE] == 1;
    }

    private boolean require(int kind) {
        if (kindHere() != kind) {
            fail(SYNTAX);
            return false;
        }
        position++;
        return true;
    }

    private void emit(int operation, int argument) {
        if (codeCount < MAX_CODE) {
            code[codeCount * CODE_CELLS] = operation;
            code[codeCount * CODE_CELLS + 1] = argument;
            codeCount++;
        }
    }

    private void patch(int jump) {
        if (jump >= 0 && jump < codeCount) {
            code[jump * CODE_CELLS + 1] = codeCount;
        }
    }

    // ---- checking the source: functions ----

    private int functionRow(int function) {
        return function >= 0 && function <= MAX_FUNCTIONS ? function * FUNCTION_CELLS : 0;
    }

    private void openFunction(int function, int parent, int nesting, int name) {
        int row = functionRow(function);
        functions[row + FUNCTION_PARENT] = parent;
        functions[row + FUNCTION_NESTING] = nesting;
        functions[row + FUNCTION_START] = codeCount;
        functions[row + FUNCTION_OWN] = 0;
        functions[row + FUNCTION_OWN_COUNT] = 0;
        functions[row + FUNCTION_NAME] = name;
        functions[row + FUNCTION_IS_OUTER] = 0;
        functions[row + FUNCTION_PARAMETERS] = 0;
    }

    private void resumeProgram() {
        if (kindHere() == T_END_OF_SOURCE) {
            emit(OP_UNDEFINED, 0);
            emit(OP_FINISH, 0);
            return;
        }
        pushState(S_PROGRAM, 0, 0);
        pushState(S_ITEM, 0, 0);
    }

    private void beginItem() {
        if (kindHere() != T_FUNCTION) {
            pushState(S_STATEMENT, 0, 0);
            return;
        }
        if (!functionFits()) {
            return;
        }
        position++;
        int name = valueHere();
        if (declareHere()) {
            beginFunction(name);
        }
    }

    private boolean functionFits() {
        int nesting = functions[functionRow(currentFunction) + FUNCTION_NESTING];
        if (functionCount >= MAX_FUNCTIONS || nesting >= MAX_NESTING) {
            fail(LIMIT);
            return false;
        }
        return true;
    }

    private boolean declareHere() {
        if (kindHere() != T_NAME) {
            fail(SYNTAX);
            return false;
        }
        int row = functionRow(currentFunction);
        int bit = 1 << valueHere();
        boolean isNew = (functions[row + FUNCTION_OWN] & bit) == 0;
        if (isNew && currentFunction != PROGRAM && functions[row + FUNCTION_OWN_COUNT] >= MAX_OWN_NAMES) {
            fail(LIMIT);
            return false;
        }
        if (isNew) {
            functions[row + FUNCTION_OWN] |= bit;
            functions[row + FUNCTION_OWN_COUNT]++;
        }
        position++;
        return true;
    }

    // The body's code stands where the function does and is jumped over there.
    private void beginFunction(int name) {
        functionCount++;
        int parent = functionRow(currentFunction);
        functions[parent + FUNCTION_IS_OUTER] = 1;
        if (name == NONE) {
            emit(OP_NEW_FUNCTION, functionCount);
        }
        pushState(S_BODY, codeCount, currentLoop);
        emit(OP_JUMP, 0);
        openFunction(functionCount, currentFunction, functions[parent + FUNCTION_NESTING] + 1, name);
        currentFunction = functionCount;
        currentLoop = NONE;
        if (!require(T_OPEN)) {
            return;
        }
        if (kindHere() == T_CLOSE) {
            position++;
            require(T_OPEN_BRACE);
        } else {
            pushState(S_PARAMETER, 0, 0);
        }
    }

    private void readParameter() {
        int name = valueHere();
        if (!declareHere()) {
            return;
        }
        int row = functionRow(currentFunction);
        int count = functions[row + FUNCTION_PARAMETERS];
        if (count >= 0 && count < MAX_ARGUMENTS) {
            functions[row + FUNCTION_FIRST_PARAMETER + count] = name;
            functions[row + FUNCTION_PARAMETERS] = count + 1;
        }
        if (kindHere() != T_COMMA) {
            if (require(T_CLOSE)) {
                require(T_OPEN_BRACE);
            }
            return;
        }
        if (count + 1 >= MAX_ARGUMENTS) {
            fail(LIMIT);
            return;
        }
        position++;
        pushState(S_PARAMETER, 0, 0);
    }

    private void resumeBody(int jump, int outerLoop) {
        if (kindHere() != T_CLOSE_BRACE) {
            pushState(S_BODY, jump, outerLoop);
            pushState(S_ITEM, 0, 0);
            return;
        }
        position++;
        emit(OP_UNDEFINED, 0);
        emit(OP_RETURN, 0);
        patch(jump);
        currentFunction = functions[functionRow(currentFunction) + FUNCTION_PARENT];
        currentLoop = outerLoop;
    }

    // ---- checking the source: statements ----

    private void beginStatement() {
        switch (kindHere()) {
            case T_OPEN_BRACE: position++; pushState(S_BLOCK, 0, 0); break;
            case T_SEMICOLON: position++; break;
            case T_VAR: beginVar(); break;
            case T_IF: beginIf(); break;
            case T_WHILE: beginWhile(); break;
            case T_BREAK: leaveLoop(OP_LOOP_AFTER); break;
            case T_CONTINUE: leaveLoop(OP_LOOP_START); break;
            case T_RETURN: beginReturn(); break;
            case T_THROW: beginThrow(); break;
            case T_TRY: beginTry(); break;
            case T_FUNCTION: fail(SYNTAX); break;
            default: beginExpressionStatement(OP_POP); break;
        }
    }

    private void beginExpressionStatement(int lastOperation) {
        pushState(S_END, 0, 0);
        pushState(S_EMIT, lastOperation, 0);
        pushState(S_ASSIGN, 0, 0);
    }

    private void endStatement() {
        int kind = kindHere();
        if (kind == T_SEMICOLON) {
            position++;
        } else if (kind != T_CLOSE_BRACE && kind != T_END_OF_SOURCE && !isAfterLineEnd()) {
            fail(SYNTAX);
        }
    }

    private void resumeBlock() {
        if (kindHere() == T_CLOSE_BRACE) {
            position++;
            return;
        }
        pushState(S_BLOCK, 0, 0);
        pushState(S_STATEMENT, 0, 0);
    }

    private void beginVar() {
        position++;
        int name = valueHere();
        if (!declareHere()) {
            return;
        }
        pushState(S_END, 0, 0);
        if (kindHere() == T_ASSIGN) {
            position++;
            pushState(S_EMIT, OP_POP, 0);
            pushState(S_EMIT, OP_STORE_NAME, name);
            pushState(S_ASSIGN, 0, 0);
        }
    }

    private void beginIf() {
        position++;
        if (require(T_OPEN)) {
            pushState(S_IF_THEN, 0, 0);
            pushState(S_ASSIGN, 0, 0);
        }
    }

    private void resumeIf() {
        if (require(T_CLOSE)) {
            pushState(S_IF_ELSE, codeCount, 0);
            pushState(S_STATEMENT, 0, 0);
            emit(OP_JUMP_IF_FALSE, 0);
        }
    }

    private void resumeElse(int jump) {
        if (kindHere() != T_ELSE) {
            patch(jump);
            return;
        }
        position++;
        pushState(S_PATCH, codeCount, 0);
        pushState(S_STATEMENT, 0, 0);
        emit(OP_JUMP, 0);
        patch(jump);
    }

    private int loopRow(int loop) {
        return loop >= 0 && loop < MAX_LOOPS ? loop * LOOP_CELLS : 0;
    }

    private void beginWhile() {
        if (loopCount >= MAX_LOOPS) {
            fail(LIMIT);
            return;
        }
        position++;
        if (!require(T_OPEN)) {
            return;
        }
        loops[loopRow(loopCount)] = codeCount;
        emit(OP_TICK, 0);
        pushState(S_WHILE_BODY, loopCount, 0);
        pushState(S_ASSIGN, 0, 0);
        loopCount++;
    }

    private void resumeWhile(int loop) {
        if (require(T_CLOSE)) {
            pushState(S_WHILE_AFTER, codeCount, currentLoop);
            pushState(S_STATEMENT, 0, 0);
            emit(OP_JUMP_IF_FALSE, 0);
            currentLoop = loop;
        }
    }

    private void endWhile(int jump, int outerLoop) {
        emit(OP_LOOP_START, currentLoop);
        patch(jump);
        loops[loopRow(currentLoop) + LOOP_AFTER] = codeCount;
        currentLoop = outerLoop;
    }

    private void leaveLoop(int operation) {
        if (currentLoop == NONE) {
            fail(SYNTAX);
            return;
        }
        position++;
        emit(operation, currentLoop);
        pushState(S_END, 0, 0);
    }

    private void beginReturn() {
        if (currentFunction == PROGRAM) {
            fail(SYNTAX);
            return;
        }
        position++;
        int kind = kindHere();
        boolean isBare = kind == T_SEMICOLON || kind == T_CLOSE_BRACE || kind == T_END_OF_SOURCE;
        if (isBare || isAfterLineEnd()) {
            emit(OP_UNDEFINED, 0);
            emit(OP_RETURN, 0);
            pushState(S_END, 0, 0);
            return;
        }
        beginExpressionStatement(OP_RETURN);
    }

    private void beginThrow() {
        position++;
        if (isAfterLineEnd()) {
            fail(SYNTAX);
            return;
        }
        beginExpressionStatement(OP_THROW);
    }

    private int tryRow(int number) {
        return number >= 0 && number < MAX_TRIES ? number * TRY_CELLS : 0;
    }

    private void beginTry() {
        if (tryCount >= MAX_TRIES) {
            fail(LIMIT);
            return;
        }
        position++;
        if (!require(T_OPEN_BRACE)) {
            return;
        }
        int row = tryRow(tryCount);
        tries[row] = currentFunction;
        tries[row + TRY_START] = codeCount;
        pushState(S_CATCH, tryCount, 0);
        pushState(S_BLOCK, 0, 0);
        tryCount++;
    }

    private void resumeCatch(int number) {
        int row = tryRow(number);
        tries[row + TRY_AFTER] = codeCount;
        int jump = codeCount;
        emit(OP_JUMP, 0);
        if (!require(T_CATCH) || !require(T_OPEN)) {
            return;
        }
        int name = valueHere();
        if (!declareHere() || !require(T_CLOSE) || !require(T_OPEN_BRACE)) {
            return;
        }
        tries[row + TRY_HANDLER] = codeCount;
        emit(OP_STORE_NAME, name);
        emit(OP_POP, 0);
        pushState(S_PATCH, jump, 0);
        pushState(S_BLOCK, 0, 0);
    }

    // ---- checking the source: expressions ----

    private void beginAssign() {
        pushState(S_CONDITIONAL, 0, 0);
        pushState(S_BINARY, 1, 0);
        pushState(S_UNARY, MAY_BE_TARGET, 0);
    }

    private void resumeConditional() {
        if (kindHere() == T_QUESTION) {
            position++;
            pushState(S_COLON, codeCount, 0);
            pushState(S_ASSIGN, 0, 0);
            emit(OP_JUMP_IF_FALSE, 0);
        }
    }

    private void resumeColon(int jump) {
        if (require(T_COLON)) {
            pushState(S_PATCH, codeCount, 0);
            pushState(S_ASSIGN, 0, 0);
            emit(OP_JUMP, 0);
            patch(jump);
        }
    }

    private void resumeBinary(int least) {
        int kind = kindHere();
        int priority = priorityOf(kind);
        if (priority < least) {
            return;
        }
        position++;
        pushState(S_BINARY, least, 0);
        if (kind == T_OR_ELSE || kind == T_AND_THEN) {
            pushState(S_PATCH, codeCount, 0);
            emit(kind == T_OR_ELSE ? OP_KEEP_IF_TRUE : OP_KEEP_IF_FALSE, 0);
        } else {
            pushState(S_EMIT, OP_BINARY, kind);
        }
        pushState(S_BINARY, priority + 1, 0);
        pushState(S_UNARY, NO_TARGET, 0);
    }

    private int priorityOf(int kind) {
        if (kind < T_OR_ELSE || kind > T_REMAINDER) {
            return 0;
        }
        if (kind < T_EQUAL) {
            return kind - T_OR_ELSE + 1;
        }
        if (kind < T_LESS) {
            return 6;
        }
        if (kind < T_SHIFT_LEFT) {
            return 7;
        }
        if (kind < T_PLUS) {
            return 8;
        }
        return kind < T_TIMES ? 9 : 10;
    }

    private void beginUnary(int target) {
        int kind = kindHere();
        if (kind == T_MINUS || kind == T_NOT || kind == T_COMPLEMENT) {
            position++;
            pushState(S_EMIT, OP_UNARY, kind);
            pushState(S_UNARY, NO_TARGET, 0);
        } else if (kind == T_NAME) {
            readName(target);
        } else {
            pushState(S_POSTFIX, target, 0);
            pushState(S_PRIMARY, 0, 0);
        }
    }

    private void readName(int target) {
        int name = valueHere();
        position++;
        int kind = kindHere();
        if (target == NO_TARGET || kind < T_ASSIGN || kind > T_AND_ASSIGN) {
            emit(OP_READ_NAME, name);
            pushState(S_POSTFIX, target, 0);
            return;
        }
        position++;
        pushState(S_EMIT, OP_STORE_NAME, name);
        if (kind != T_ASSIGN) {
            emit(OP_READ_NAME, name);
        }
        beginRightSide(kind);
    }

    private void beginRightSide(int kind) {
        switch (kind) {
            case T_ADD_ASSIGN: pushState(S_EMIT, OP_BINARY, T_PLUS); break;
            case T_SUBTRACT_ASSIGN: pushState(S_EMIT, OP_BINARY, T_MINUS); break;
            case T_MULTIPLY_ASSIGN: pushState(S_EMIT, OP_BINARY, T_TIMES); break;
            case T_AND_ASSIGN: pushState(S_EMIT, OP_BINARY, T_BIT_AND); break;
            default: break;
        }
        pushState(S_ASSIGN, 0, 0);
    }

    private void beginPrimary() {
        int value = valueHere();
        switch (kindHere()) {
            case T_NUMBER: position++; emit(OP_NUM, value); break;
            case T_TRUE: position++; emit(OP_BOOL, 1); break;
            case T_FALSE: position++; emit(OP_BOOL, 0); break;
            case T_NULL: position++; emit(OP_NULL, 0); break;
            case T_UNDEFINED: position++; emit(OP_UNDEFINED, 0); break;
            case T_OPEN:
                position++;
                pushState(S_CLOSE, 0, 0);
                pushState(S_ASSIGN, 0, 0);
                break;
            case T_OPEN_BRACE: beginObject(); break;
            case T_FUNCTION:
                if (functionFits()) {
                    position++;
                    beginFunction(NONE);
                }
                break;
            case T_HOST: beginHostCall(); break;
            default: fail(SYNTAX); break;
        }
    }

    private void beginObject() {
        position++;
        emit(OP_NEW_OBJECT, 0);
        if (kindHere() == T_CLOSE_BRACE) {
            position++;
        } else {
            pushState(S_PROPERTY, 0, 0);
        }
    }

    private void beginProperty() {
        int name = valueHere();
        if (require(T_NAME) && require(T_COLON)) {
            pushState(S_PROPERTY_AFTER, name, 0);
            pushState(S_ASSIGN, 0, 0);
        }
    }

    private void resumeProperties(int name) {
        emit(OP_FILL_PROPERTY, name);
        if (kindHere() == T_COMMA) {
            position++;
            pushState(S_PROPERTY, 0, 0);
        } else {
            require(T_CLOSE_BRACE);
        }
    }

    private void beginHostCall() {
        position++;
        if (!require(T_DOT)) {
            return;
        }
        int name = valueHere();
        if (require(T_NAME) && require(T_OPEN)) {
            pushState(S_ARGUMENTS, name, 0);
        }
    }

    private void resumePostfix(int target) {
        int kind = kindHere();
        if (kind == T_OPEN) {
            position++;
            pushState(S_POSTFIX, target, 0);
            pushState(S_ARGUMENTS, NONE, 0);
        } else if (kind == T_DOT) {
            position++;
            readMember(target);
        }
    }

    private void readMember(int target) {
        int name = valueHere();
        if (!require(T_NAME)) {
            return;
        }
        int kind = kindHere();
        if (target == NO_TARGET || kind < T_ASSIGN || kind > T_AND_ASSIGN) {
            emit(OP_READ_PROPERTY, name);
            pushState(S_POSTFIX, target, 0);
            return;
        }
        position++;
        pushState(S_EMIT, OP_STORE_PROPERTY, name);
        emit(kind == T_ASSIGN ? OP_NEED_OBJECT : OP_READ_AND_KEEP, name);
        beginRightSide(kind);
    }

    private void beginArguments(int hostName) {
        if (kindHere() == T_CLOSE) {
            position++;
            emitCall(0, hostName);
            return;
        }
        pushState(S_ARGUMENT, 1, hostName);
        pushState(S_ASSIGN, 0, 0);
    }

    private void resumeArguments(int count, int hostName) {
        if (kindHere() != T_COMMA) {
            if (require(T_CLOSE)) {
                emitCall(count, hostName);
            }
            return;
        }
        if (count >= MAX_ARGUMENTS) {
            fail(LIMIT);
            return;
        }
        position++;
        pushState(S_ARGUMENT, count + 1, hostName);
        pushState(S_ASSIGN, 0, 0);
    }

    private void emitCall(int count, int hostName) {
        if (hostName == NONE) {
            emit(OP_CALL, count);
        } else {
            emit(OP_HOST, hostName * HOST_NAME_STEP + count);
        }
    }

    // ---- execution ----

    private void beginExecution(int entry) {
        status = RUNNING;
        thrown = ABSENT;
        ticksLeft = MAX_TICKS;
        operandCount = 0;
        activeCalls = 0;
        nextInstruction = entry;
        frames[0] = PROGRAM;
        frames[FRAME_SCOPE] = NONE;
        frames[FRAME_BASE] = 0;
        frames[FRAME_RETURN] = 0;
    }

    private void execute() {
        for (int steps = 0; steps < STEP_BOUND && status == RUNNING; steps++) {
            if (nextInstruction < 0 || nextInstruction >= codeCount) {
                return;
            }
            int operation = code[nextInstruction * CODE_CELLS];
            int argument = code[nextInstruction * CODE_CELLS + 1];
            nextInstruction++;
            switch (operation) {
                case OP_UNDEFINED:
                case OP_NULL:
                case OP_BOOL:
                case OP_NUM: pushValue(operation, argument); break;
                case OP_READ_NAME: readVariable(argument); break;
                case OP_STORE_NAME: storeVariable(argument); break;
                case OP_POP: pop(); break;
                case OP_UNARY: performUnary(argument); break;
                case OP_BINARY: performBinary(argument); break;
                case OP_JUMP: nextInstruction = argument; break;
                case OP_JUMP_IF_FALSE: jumpIfFalse(argument); break;
                case OP_KEEP_IF_TRUE: keepOrDrop(true, argument); break;
                case OP_KEEP_IF_FALSE: keepOrDrop(false, argument); break;
                case OP_LOOP_START: nextInstruction = loops[loopRow(argument)]; break;
                case OP_LOOP_AFTER: nextInstruction = loops[loopRow(argument) + LOOP_AFTER]; break;
                case OP_TICK: useTick(); break;
                case OP_NEW_OBJECT: pushObject(PROGRAM); break;
                case OP_NEW_FUNCTION: pushObject(argument); break;
                case OP_READ_PROPERTY: readProperty(argument, false); break;
                case OP_NEED_OBJECT: needObject(); break;
                case OP_READ_AND_KEEP: readProperty(argument, true); break;
                case OP_STORE_PROPERTY: assignProperty(argument, true); break;
                case OP_FILL_PROPERTY: assignProperty(argument, false); break;
                case OP_CALL: callFunction(argument); break;
                case OP_HOST: callHost(argument / HOST_NAME_STEP, argument % HOST_NAME_STEP); break;
                case OP_RETURN: returnToCaller(); break;
                case OP_THROW: thrown = pop(); break;
                default: finish(); break;
            }
            if (thrown != ABSENT) {
                unwind();
            }
        }
    }

    // What is thrown goes to the innermost try around the instruction, else around the call that led here.
    private void unwind() {
        long value = thrown;
        thrown = ABSENT;
        int place = nextInstruction - 1;
        for (int depth = activeCalls; depth >= 0; depth--) {
            int frame = frameRow(depth);
            int row = findTry(frames[frame], place);
            if (row != NONE) {
                activeCalls = depth;
                operandCount = frames[frame + FRAME_BASE];
                push(value);
                nextInstruction = tries[row + TRY_HANDLER];
                return;
            }
            place = frames[frame + FRAME_RETURN] - 1;
        }
        status = THROWN;
        lastResult = value;
    }

    // An inner try has a greater number than the one around it, so the search goes downwards.
    private int findTry(int function, int place) {
        for (int row = (tryCount - 1) * TRY_CELLS; row >= 0; row -= TRY_CELLS) {
            boolean isAround = place >= tries[row + TRY_START] && place < tries[row + TRY_AFTER];
            if (isAround && tries[row] == function) {
                return row;
            }
        }
        return NONE;
    }

    private void raise(int errorCode) {
        thrown = (long) K_ERR << 32 | errorCode;
    }

    private boolean useTick() {
        if (ticksLeft <= 0) {
            status = STOPPED;
            lastResult = UNDEFINED;
            return false;
        }
        ticksLeft--;
        return true;
    }

    private void finish() {
        lastResult = pop();
        status = DONE;
    }

    private void push(long value) {
        if (operandCount >= 0 && operandCount < MAX_OPERANDS) {
            operands[operandCount] = value;
            operandCount++;
        }
    }

    private void pushValue(int kind, int payload) {
        long value = valueOf(kind, payload);
        push(value);
    }

    private long pop() {
        if (operandCount <= 0) {
            return UNDEFINED;
        }
        operandCount--;
        return operands[operandCount];
    }

    private long top() {
        return operandCount > 0 ? operands[operandCount - 1] : UNDEFINED;
    }

    // ---- execution: names and properties ----

    private int scopeRow(int scope) {
        return scope >= 0 && scope < MAX_SCOPES ? scope * SCOPE_CELLS : 0;
    }

    private int variablePlace(int scope, int name) {
        int place = scope * NAME_COUNT + name;
        return place >= 0 && place < SCOPE_VALUES_LENGTH ? place : 0;
    }

    private int currentScope() {
        return frames[frameRow(activeCalls) + FRAME_SCOPE];
    }

    private int findScope(int name) {
        int scope = currentScope();
        for (int out = 0; out < MAX_NESTING && scope != NONE; out++) {
            int row = scopeRow(scope);
            if ((functions[functionRow(scopes[row]) + FUNCTION_OWN] >> name & 1) == 1) {
                return scope;
            }
            scope = scopes[row + SCOPE_PARENT];
        }
        return NONE;
    }

    private void readVariable(int name) {
        int scope = findScope(name);
        long value = scope == NONE ? globalValue(name) : scopeValues[variablePlace(scope, name)];
        if (value == ABSENT) {
            raise(E_ABSENT_GLOBAL);
        } else {
            push(value);
        }
    }

    private void storeVariable(int name) {
        int scope = findScope(name);
        long value = top();
        assignVariable(scope, name, value);
    }

    private void assignVariable(int scope, int name, long value) {
        if (scope != NONE) {
            scopeValues[variablePlace(scope, name)] = value;
        } else if (isName(name)) {
            globals[name] = value;
        }
    }

    private void needObject() {
        long holder = top();
        if (kindOf(holder) != K_OBJ) {
            raise(E_WRONG_TYPE);
        }
    }

    private void readProperty(int name, boolean keepsHolder) {
        long holder = top();
        if (kindOf(holder) != K_OBJ) {
            raise(E_WRONG_TYPE);
            return;
        }
        if (!keepsHolder) {
            pop();
        }
        int place = findProperty(holder, name);
        push(place == NONE ? UNDEFINED : properties[place]);
    }

    private void assignProperty(int name, boolean answersValue) {
        long value = pop();
        long holder = pop();
        storeProperty(holder, name, value);
        push(answersValue ? value : holder);
    }

    private void pushObject(int function) {
        int scope = currentScope();
        long made = makeObject(function, scope);
        push(made);
    }

    // ---- execution: operators ----

    private boolean isTrue(long value) {
        int kind = kindOf(value);
        return kind >= K_OBJ || (int) value != 0;
    }

    private void jumpIfFalse(int target) {
        long condition = pop();
        if (!isTrue(condition)) {
            nextInstruction = target;
        }
    }

    private void keepOrDrop(boolean keptTruth, int target) {
        long left = top();
        if (isTrue(left) == keptTruth) {
            nextInstruction = target;
        } else {
            pop();
        }
    }

    private void performUnary(int kind) {
        long operand = pop();
        if (kind == T_NOT) {
            boolean truth = isTrue(operand);
            pushValue(K_BOOL, truth ? 0 : 1);
        } else if (kindOf(operand) == K_OBJ) {
            raise(E_WRONG_TYPE);
        } else {
            pushValue(K_NUM, kind == T_MINUS ? -(int) operand : ~(int) operand);
        }
    }

    // Every payload but that of an object is already the int that the document calls TOINT.
    private void performBinary(int kind) {
        long right = pop();
        long left = pop();
        if (kind >= T_EQUAL && kind <= T_NOT_IDENTICAL) {
            boolean strict = kind == T_IDENTICAL || kind == T_NOT_IDENTICAL;
            boolean equal = strict ? left == right : isLooselyEqual(left, right);
            boolean negated = kind == T_UNEQUAL || kind == T_NOT_IDENTICAL;
            pushValue(K_BOOL, equal != negated ? 1 : 0);
        } else if (kindOf(left) == K_OBJ || kindOf(right) == K_OBJ) {
            raise(E_WRONG_TYPE);
        } else if (kind >= T_LESS && kind <= T_AT_LEAST) {
            boolean holds = compare(kind, (int) left, (int) right);
            pushValue(K_BOOL, holds ? 1 : 0);
        } else if ((kind == T_DIVIDE || kind == T_REMAINDER) && (int) right == 0) {
            raise(E_DIVISION);
        } else {
            int number = compute(kind, (int) left, (int) right);
            pushValue(K_NUM, number);
        }
    }

    private boolean isLooselyEqual(long left, long right) {
        int one = kindOf(left);
        int other = kindOf(right);
        if (one == other) {
            return left == right;
        }
        if (one <= K_NULL && other <= K_NULL) {
            return true;
        }
        boolean bothPlain = (one == K_BOOL || one == K_NUM) && (other == K_BOOL || other == K_NUM);
        return bothPlain && (int) left == (int) right;
    }

    private boolean compare(int kind, int left, int right) {
        switch (kind) {
            case T_LESS: return left < right;
            case T_GREATER: return left > right;
            case T_AT_MOST: return left <= right;
            default: return left >= right;
        }
    }

    private int compute(int kind, int left, int right) {
        switch (kind) {
            case T_BIT_OR: return left | right;
            case T_BIT_XOR: return left ^ right;
            case T_BIT_AND: return left & right;
            case T_SHIFT_LEFT: return left << right;
            case T_SHIFT_RIGHT: return left >> right;
            case T_SHIFT_UNSIGNED: return left >>> right;
            case T_PLUS: return left + right;
            case T_MINUS: return left - right;
            case T_TIMES: return left * right;
            case T_DIVIDE: return right == 0 ? 0 : left / right;
            default: return right == 0 ? 0 : left % right;
        }
    }

    // ---- execution: calls of functions ----

    private void callFunction(int count) {
        int base = operandCount - count - 1;
        if (base < 0) {
            return;
        }
        long callee = operands[base];
        int function = functionOf(callee);
        if (function == PROGRAM) {
            raise(E_WRONG_TYPE);
            return;
        }
        if (activeCalls >= MAX_CALLS) {
            raise(E_NO_ROOM);
            return;
        }
        if (!useTick()) {
            return;
        }
        int parent = objects[objectRow(callee) + OBJECT_SCOPE];
        int scope = openScope(function, parent);
        if (scope == NONE) {
            raise(E_NO_ROOM);
            return;
        }
        bindArguments(function, scope, count);
        operandCount = base;
        if (makeDeclaredFunctions(function, scope)) {
            enter(function, scope);
        }
    }

    // A scope that an inner function may keep is not used again before the next run.
    private int openScope(int function, int parent) {
        int scope = MAX_OUTER_CALLS + activeCalls;
        if (functions[functionRow(function) + FUNCTION_IS_OUTER] == 1) {
            if (outerCalls >= MAX_OUTER_CALLS) {
                return NONE;
            }
            scope = outerCalls;
            outerCalls++;
        }
        int row = scopeRow(scope);
        scopes[row] = function;
        scopes[row + SCOPE_PARENT] = parent;
        return scope;
    }

    private void bindArguments(int function, int scope, int count) {
        for (int name = 0; name < NAME_COUNT; name++) {
            scopeValues[variablePlace(scope, name)] = UNDEFINED;
        }
        int row = functionRow(function);
        int first = operandCount - count;
        for (int i = 0; i < MAX_ARGUMENTS && i < functions[row + FUNCTION_PARAMETERS]; i++) {
            int name = functions[row + FUNCTION_FIRST_PARAMETER + i];
            scopeValues[variablePlace(scope, name)] = i < count ? operands[first + i] : UNDEFINED;
        }
    }

    private boolean makeDeclaredFunctions(int outer, int scope) {
        for (int function = 1; function <= functionCount && function <= MAX_FUNCTIONS; function++) {
            int row = functionRow(function);
            int name = functions[row + FUNCTION_NAME];
            if (functions[row + FUNCTION_PARENT] != outer || name == NONE) {
                continue;
            }
            long made = makeObject(function, scope);
            if (thrown != ABSENT) {
                return false;
            }
            assignVariable(scope, name, made);
        }
        return true;
    }

    private int frameRow(int depth) {
        return depth >= 0 && depth <= MAX_CALLS ? depth * FRAME_CELLS : 0;
    }

    private void enter(int function, int scope) {
        activeCalls++;
        int frame = frameRow(activeCalls);
        frames[frame] = function;
        frames[frame + FRAME_SCOPE] = scope;
        frames[frame + FRAME_BASE] = operandCount;
        frames[frame + FRAME_RETURN] = nextInstruction;
        nextInstruction = functions[functionRow(function) + FUNCTION_START];
    }

    private void returnToCaller() {
        long answer = pop();
        int frame = frameRow(activeCalls);
        operandCount = frames[frame + FRAME_BASE];
        nextInstruction = frames[frame + FRAME_RETURN];
        activeCalls--;
        push(answer);
    }

    // ---- execution: calls of host methods ----

    private void callHost(int name, int count) {
        int base = operandCount - count;
        if (base < 0) {
            return;
        }
        long first = count > 0 ? operands[base] : ABSENT;
        long second = count > 1 ? operands[base + 1] : ABSENT;
        operandCount = base;
        int method = count > MAX_HOST_ARGUMENTS ? NONE : chooseMethod(name, first, second);
        if (method == NONE) {
            raise(E_NO_METHOD);
        } else if (method == SEVERAL) {
            raise(E_SEVERAL_METHODS);
        } else {
            int row = method * METHOD_CELLS;
            long one = convert(first, methods[row + METHOD_FIRST]);
            long other = convert(second, methods[row + METHOD_SECOND]);
            recordCall(method, one, other);
            answerHost(methods[row + METHOD_RESULT]);
        }
    }

    // Two methods never rank alike in both arguments, so the best one has the least rank in each.
    private int chooseMethod(int name, long first, long second) {
        int firstKind = kindOf(first);
        int secondKind = kindOf(second);
        int leastFirst = NO_RANK_YET;
        int leastSecond = NO_RANK_YET;
        int chosen = NONE;
        for (int method = 0; method < methodCount && method < MAX_METHODS; method++) {
            int row = method * METHOD_CELLS;
            int firstRank = rank(firstKind, methods[row + METHOD_FIRST]);
            int secondRank = rank(secondKind, methods[row + METHOD_SECOND]);
            if (methods[row] != name || firstRank == 0 || secondRank == 0) {
                continue;
            }
            if (firstRank <= leastFirst && secondRank <= leastSecond) {
                chosen = method;
            } else if (firstRank < leastFirst || secondRank < leastSecond) {
                chosen = SEVERAL;
            }
            leastFirst = firstRank < leastFirst ? firstRank : leastFirst;
            leastSecond = secondRank < leastSecond ? secondRank : leastSecond;
        }
        return chosen;
    }

    // 0 means that the argument does not fit; no argument fits no parameter.
    private int rank(int kind, int parameter) {
        if (kind == K_ABSENT || parameter == P_NONE) {
            return kind == K_ABSENT && parameter == P_NONE ? 1 : 0;
        }
        if (kind == K_NUM) {
            switch (parameter) {
                case P_INT: return 1;
                case P_LONG: return 2;
                case P_SHORT: return 3;
                case P_CHAR: return 4;
                case P_BYTE: return 5;
                case P_ANY: return 6;
                default: return 0;
            }
        }
        if (kind == K_BOOL) {
            return parameter == P_BOOLEAN ? 1 : parameter == P_ANY ? 2 : parameter == P_INT ? 3 : 0;
        }
        if (parameter == P_ANY) {
            return 1;
        }
        return kind == K_ERR && parameter == P_INT ? 2 : 0;
    }

    private void recordCall(int method, long one, long other) {
        int row = (traceTotal & TRACE_MASK) * TRACE_CELLS;
        trace[row] = method;
        trace[row + 1] = one;
        trace[row + 2] = other;
        traceTotal++;
        hostMemory = hostMemory * 31 + one * 7 + other * 3 + method + 1;
    }

    private long convert(long value, int parameter) {
        int payload = (int) value;
        switch (parameter) {
            case P_BYTE: return (byte) payload;
            case P_SHORT: return (short) payload;
            case P_CHAR: return payload & 0xFFFF;
            case P_ANY: return convertAny(value);
            default: return payload;
        }
    }

    private long convertAny(long value) {
        switch (kindOf(value)) {
            case K_UNDEFINED: return -1L;
            case K_NULL: return -2L;
            case K_OBJ: return 1000L + objects[objectRow(value) + OBJECT_COUNT];
            default: return (int) value;
        }
    }

    private void answerHost(int result) {
        switch (result) {
            case R_ODD: pushValue(K_BOOL, (int) (hostMemory & 1L)); break;
            case R_FOLDED: pushValue(K_NUM, (int) (hostMemory ^ hostMemory >>> 32)); break;
            case R_THROWS: raise(E_HOST); break;
            case R_NULL: pushValue(K_NULL, 0); break;
            default: pushValue(K_UNDEFINED, 0); break;
        }
    }
}
