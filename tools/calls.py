import subprocess,re,sys,glob,os
sys.setrecursionlimit(10000)
d=sys.argv[1]  # where the classes are
cls=[os.path.basename(f)[:-6] for f in glob.glob(d+'/TemplateHouse*.class') if 'Runs' not in f]
edges={};pub=[]
for c in cls:
    o=subprocess.run(['javap','-c','-p','-cp',d,c],capture_output=True,text=True).stdout
    cur=None
    for l in o.split('\n'):
        m=re.match(r'^  (public |private |static |final |protected )*[\w\[\]\.$<>]* ?([\w$.<>]+)\(.*\).*;$',l)
        if l.startswith('  ') and not l.startswith('   ') and '(' in l and l.rstrip().endswith(';'):
            nm=re.search(r'([\w$.]+)\(',l).group(1)
            cur=(c,'<init>' if nm==c or nm.endswith('$'+c.split('$')[-1]) else nm); edges.setdefault(cur,set())
            if l.startswith('  public') : pub.append(cur)
        m=re.search(r'invoke\w+ .*// (?:Interface)?Method ([\w$/]*\.)?"?([\w$<>]+)"?:',l)
        if m and cur:
            k=(m.group(1) or c+'.')[:-1]
            if k.startswith('TemplateHouse'): edges[cur].add((k,m.group(2)))
# tarjan
idx={};low={};st=[];on=set();comp={};n=[0];comps=[]
def sc(v):
    idx[v]=low[v]=n[0];n[0]+=1;st.append(v);on.add(v)
    for w in edges.get(v,()):
        if w not in idx: sc(w);low[v]=min(low[v],low[w])
        elif w in on: low[v]=min(low[v],idx[w])
    if low[v]==idx[v]:
        c=[]
        while True:
            w=st.pop();on.discard(w);c.append(w);comp[w]=len(comps)
            if w==v: break
        comps.append(c)
for v in list(edges): 
    if v not in idx: sc(v)
import functools
@functools.lru_cache(None)
def lp(c):
    best=(0,())
    for v in comps[c]:
        for w in edges.get(v,()):
            if comp[w]!=c:
                b=lp(comp[w])
                if b[0]>best[0]: best=b
    return (best[0]+1,(comps[c][0][1]+('*' if len(comps[c])>1 else ''),)+best[1])
for v in pub: print(v,lp(comp[v]))
print([ [x[1] for x in c] for c in comps if len(c)>1 or c[0] in edges.get(c[0],())])
pubn={v[1] for v in pub}
print('clash',[v for v in edges if v[0]!='TemplateHouse' and v[1] in pubn])
