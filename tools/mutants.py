"""Which small changes of the class no test of the project sees.

    python3 tools/mutants.py [FROM [TO]] > /tmp/survivors.txt

Each change of one place in the lines FROM .. TO (a comparison, a number, a sign, && or ||, true or
false, a statement left out) is compiled and run against all tests, eight at a time; what is told is
what survived. Most of what survives changes nothing: a bound behind one that holds first, the guard
of an index, the size of an array that nothing fills."""
import os, re, shutil, subprocess, sys, tempfile
from concurrent.futures import ThreadPoolExecutor

SRC = 'src/main/java/TemplateHouse.java'
TESTS = sorted(f[:-5] for f in os.listdir('src/test/java') if f.endswith('Test.java'))
OTHER = {'<': '<=', '<=': '<', '>': '>=', '>=': '>', '==': '!=', '!=': '==', '&&': '||', '||': '&&',
         'true': 'false', 'false': 'true', '+': '-', '-': '+'}
lines = open(SRC).read().split('\n')

def masked(line):
    """The line with its texts, signs and comment blanked out."""
    blank = lambda m: '_' * len(m.group())
    return re.sub(r'"(\\.|[^"\\])*"|\'(\\.|[^\'\\])+\'|//.*', blank, line)

def changes(line):
    m = masked(line)
    for x in re.finditer(r'(?<![<>=!+\-*/&|^%])(<=|>=|==|!=|<|>)(?![<>=])|&&|\|\||\b(true|false)\b|(?<= )[+\-](?= )', m):
        yield line[:x.start()] + OTHER[x.group()] + line[x.end():]
    for x in re.finditer(r'(?<![\w.])\d+(?![\w.])', m):
        for n in (int(x.group()) + 1, int(x.group()) - 1):
            if n >= 0:
                yield line[:x.start()] + str(n) + line[x.end():]
    if re.match(r'\s+[\w.]+(\[.*\])?\s*(\(.*\)|[+\-]?= .*|\+\+|--);$', m) and not re.match(r'\s+return', m):
        yield ';'

def mutants(first, last):
    comment = False
    for n, line in enumerate(lines):
        s = line.strip()
        if s.startswith('/**') or comment:
            comment = not s.endswith('*/')
        elif first <= n + 1 <= last and s and not s.startswith(('//', 'import')):
            for new in changes(line):
                yield n, new

def survives(job):
    n, new = job
    d = tempfile.mkdtemp()
    try:
        with open(d + '/TemplateHouse.java', 'w') as f:
            f.write('\n'.join(lines[:n] + [new] + lines[n + 1:]))
        if subprocess.run(['javac', '-nowarn', '-d', d, d + '/TemplateHouse.java'], capture_output=True).returncode:
            return None
        for t in TESTS:
            if subprocess.run(['java', '-XX:TieredStopAtLevel=1', '-Xss512k', '-cp', d + ':' + tests, t],
                              capture_output=True, timeout=90).returncode:
                return None
        return '%d %s\n    -> %s' % (n + 1, lines[n].strip(), new.strip())
    except subprocess.TimeoutExpired:
        return None
    finally:
        shutil.rmtree(d)

tests = tempfile.mkdtemp()
sources = ['src/test/java/' + f for f in os.listdir('src/test/java')]
subprocess.run(['javac', '-d', tests, SRC] + sources, check=True)
for f in os.listdir(tests):
    if f.startswith('TemplateHouse'):
        os.remove(tests + '/' + f)
first = int(sys.argv[1]) if len(sys.argv) > 1 else 1
last = int(sys.argv[2]) if len(sys.argv) > 2 else len(lines)
with ThreadPoolExecutor(8) as pool:
    for told in pool.map(survives, mutants(first, last)):
        if told:
            print(told, flush=True)
shutil.rmtree(tests)
