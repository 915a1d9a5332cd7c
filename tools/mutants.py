"""Which small changes of the program does no test notice? From the project's root:
    python3 tools/mutants.py /tmp/mutants [PROCESSES]
It makes some 7000 changes, one at a time (a sign, a number, a condition, an EVENT, a line that is left out), runs all
tests with each (some 15 minutes with 8 processes), and prints those that no test noticed. Most of them change nothing
that can be seen: guards of indices, bounds far above what is needed, orders of what is the same.
"""
import os, re, subprocess, sys, bisect

SOURCE = 'src/main/java/ArrayHouse.java'
FIRST = ['FaceEdgesTest', 'TextEdgesTest', 'PhraseEdgesTest', 'FunctionEdgesTest', 'ItemEdgesTest', 'OperatorEdgesTest']
EVENTS = ['SYNTAX', 'VALUE', 'RANK', 'LENGTH', 'DOMAIN', 'INDEX', 'LIMIT', 'STEPS']
SIGNS = {'<': ['<=', '>='], '<=': ['<', '>'], '>': ['>=', '<='], '>=': ['>', '<'], '==': ['!='], '!=': ['=='], '&&': ['||'],
         '||': ['&&'], '+': ['-'], '-': ['+'], '*': ['+'], '/': ['*'], '%': ['*'], '<<': ['>>']}
HIDDEN = r'/\*.*?\*/|//[^\n]*|"(?:\\.|[^"\\])*"|\'(?:\\.|[^\'\\])+\''


def changes(source):
    """(start, end, text) of each change; comments and texts stay as they are."""
    code = re.sub(HIDDEN, lambda m: re.sub(r'[^\n]', '\x01', m.group(0)), source, flags=re.S)
    start = code.index('private final State state = new State();')
    found = set()

    def add(a, b, text):
        if a >= start and source[a:b] != text:
            found.add((a, b, text))
    for m in re.finditer(r'(?<=\s)(<=|>=|==|!=|<<|<|>|&&|\|\||\+|-|\*|/|%)(?=\s)', code):
        for text in SIGNS[m.group(1)]:
            add(m.start(), m.end(), text)
    for m in re.finditer(r'(?<![\w.])(\d+)(L?)(?![\w.])', code):
        for n in (int(m.group(1)) + 1, int(m.group(1)) - 1):
            add(m.start(), m.end(), ('(%d)' % n if n < 0 else str(n)) + m.group(2))
    for m in re.finditer(r'(?:raise|refuse|fail)\((\w+)\)', code):
        if m.group(1) in EVENTS:
            for step in (1, -1):
                add(m.start(1), m.end(1), EVENTS[(EVENTS.index(m.group(1)) + step) % 8])
    for pattern, text in ((r'\+\+', '--'), (r'--', '++'), (r'\btrue\b', 'false'), (r'\bfalse\b', 'true'), (r'(?<![=!<>])!(?=[\w(])', ''),
                          (r'(?<=Math\.)max', 'min'), (r'(?<=Math\.)min', 'max'), (r'Math\.abs(?=\()', '')):
        for m in re.finditer(pattern, code):
            add(m.start(), m.end(), text)
    for m in re.finditer(r'\bif \(', code):
        end, depth = m.end(), 1
        while depth:
            depth += (code[end] == '(') - (code[end] == ')')
            end += 1
        add(m.end(), end - 1, 'true')
        add(m.end(), end - 1, 'false')
    for m in re.finditer(r'(?m)^ +((?!return|break|continue|private|final|for|if|else|case|default|int |long |boolean )[^\n{}]+;)$', code):
        add(m.start(1), m.end(1), ';')
    for m in re.finditer(r'\breturn ([^;\n]+);', code):
        add(m.start(1), m.end(1), '0')
    return sorted(found)


def prepare(out):
    """Compiles the tests (with a House that stops at the first wrong answer) and the runner."""
    os.makedirs(out + '/tests', exist_ok=True)
    house = open('src/test/java/House.java').read()
    house = re.sub(r'System\.out\.println\(what \+ ": answered[^;]*;', 'throw new IllegalStateException();', house)
    house = house.replace('System.exit(wrong == 0 ? 0 : 1);', '')
    open(out + '/House.java', 'w').write(house)
    files = [os.path.join(d, f) for d in ('src/test/java', '../shared/tests') for f in os.listdir(d) if f != 'House.java']
    subprocess.run(['javac', '-d', out + '/tests', SOURCE, out + '/House.java'] + files, check=True)
    subprocess.run(['javac', '-nowarn', '-d', out, 'tools/MutantRunner.java'], check=True, stderr=subprocess.DEVNULL)
    names = [os.path.basename(f)[:-5] for f in files if f.endswith('.java')]
    return FIRST + [n for n in sorted(names) if n not in FIRST]


def main(out, processes):
    source = open(SOURCE).read()
    tests = prepare(out)
    rows = changes(source)
    with open(out + '/changes.txt', 'w') as f:
        f.writelines('%d\t%d\t%s\n' % row for row in rows)
    runs = [subprocess.Popen(['java', '-Djava.security.manager=allow', '-XX:+UseSerialGC', '-XX:TieredStopAtLevel=1', '-cp', out, 'MutantRunner',
                              SOURCE, out + '/changes.txt', str(i), str(processes), out + '/tests', ','.join(tests)],
                             stdout=subprocess.PIPE, stderr=subprocess.DEVNULL, text=True) for i in range(processes)]
    left = sorted(int(line.split()[0]) for run in runs for line in run.communicate()[0].splitlines() if line.endswith('not noticed'))
    starts = [0] + [m.end() for m in re.finditer('\n', source)]
    for i in left:
        a, b, text = rows[i]
        line = bisect.bisect_right(starts, a)
        print('%d: %s   [%s -> %s]' % (line, source.splitlines()[line - 1].strip(), source[a:b], text))
    print('%d changes, %d not noticed' % (len(rows), len(left)))


if __name__ == '__main__':
    main(sys.argv[1], int(sys.argv[2]) if len(sys.argv) > 2 else 8)
