import sys,random,threading; import os; sys.path.insert(0,os.path.dirname(os.path.abspath(__file__)))
from model import *
R=random.Random(int(sys.argv[1])); N=int(sys.argv[2]); MUT=float(sys.argv[3]) if len(sys.argv)>3 else 0.3
NAMES=['a','b','c','x','y','i','i0','p','q']
def pick(*l): return R.choice(l)
class G:
    def __init__(g,files):
        g.O='<';g.C='>'; g.tm={}; g.dicts=[]; g.packed=False; g.multi=True; g.inq=False; g.file=0; g.sups={}
    def bl(g):
        return pick('','','','','',' ','\n ' if not g.inq else ' ')
    def s(g,*parts):
        return ''.join(parts)
    def string(g):
        q="'" if g.inq or R.random()<.5 else '"'
        body=''.join(pick('a','B','1',' ','-','\\n','\\t','\\\\','<','>','&','}','{','xyz','url','upper',',') for _ in range(R.randrange(4)))
        if R.random()<.25: body=pick('upper','lower','cap','xml','url','3','05','07','9','zz','k','keys','values','t0','t1','p','q')
        return q+body.replace(q,'')+q
    def name(g): return pick(*NAMES)
    def args(g,ps,d,applied=False):
        # ps: list of (name,hasdefault)
        if applied: ps=ps[1:]
        must=[p for p,h in ps if not h]
        r=R.random()
        if r<.15: return '...'
        if r<.5 or not ps:
            n=R.randint(len(must),len(ps))
            # defaults are behind
            return (g.bl()+','+g.bl()).join(g.arg(d) for _ in range(n))
        chosen=[p for p,h in ps if not h or R.random()<.5]
        R.shuffle(chosen)
        o=[p+g.bl()+'='+g.bl()+g.arg(d) for p in chosen]
        if R.random()<.25 and chosen:
            o=o[:R.randint(1,len(o))]+['...']
        if not o: return ''
        return ','.join(o)
    def byname(g,d):
        q="'" if g.inq or R.random()<.5 else '"'
        return q+pick('t0','t1','t2','t3','t4','main','al0')+q if R.random()<.75 else g.arg(d-1)
    def anyargs(g,d):
        r=R.random()
        if r<.3: return ''
        if r<.6: return ','.join(g.arg(d) for _ in range(R.randint(1,3)))
        if r<.7: return '...'
        ns=R.sample(NAMES,R.randint(1,3))
        return ','.join(n+'='+g.arg(d) for n in ns)+pick('',',...','')
    def arg(g,d):
        e=g.member(d-1)
        while R.random()<.15: e+=g.bl()+':'+g.applied(d-1)
        return e
    def applied(g,d):
        r=R.random()
        if r<.5 or d<=0: return g.sub(d-1,pick(0,1,1,1))
        if r<.65: return '('+g.byname(d)+')('+g.anyargs(d-2)+')'
        c=[(n,ps) for n,ps in g.tm.items() if ps]
        if c:
            n,ps=pick(*c); return n+'('+g.args(ps,d-1,True)+')'
        return g.sub(d-1,1)
    def member(g,d):
        e=g.primary(d)
        while R.random()<.2: e+=g.bl()+'.'+g.bl()+(pick('p','q','k','keys','values','s','a','i') if R.random()<.6 or d<=0 else '('+g.arg(d-1)+')')
        return e
    def primary(g,d):
        r=R.random()
        if d<=0: r*=.6
        if r<.35: return g.name()
        if r<.42: return pick(*(g.dicts or ['a']))
        if r<.5: return g.string()
        if r<.55: return pick('true','false')
        if r<.6: return '[]'
        if r<.67: return '['+','.join(pick(g.arg(d-1),g.arg(d-1),'') for _ in range(R.randint(1,4)))+']'
        if r<.74: return g.sub(d-1,pick(0,0,1))
        if r<.82:
            return pick('first','last','rest','trunc','strip','reverse','length','strlen','trim')+'('+g.arg(d-1)+')'
        if r<.86: return '('+g.arg(d-1)+')'
        if r<.9: return '('+g.byname(d)+')('+g.anyargs(d-2)+')'
        if g.tm:
            n=pick(*g.tm)
            if n in g.sups and R.random()<.5: return 'super.'+n+'('+g.args(g.sups[n],d-1)+')'
            return n+'('+g.args(g.tm[n],d-1)+')'
        return g.name()
    def sub(g,d,np):
        ps=''
        if np: ps=g.bl()+','.join(R.sample(NAMES,np))+g.bl()+'|'
        return '{'+ps+g.text(d,True)+'}'
    def cond(g,d):
        r=R.random()
        if d<=0 or r<.4:
            m=g.member(min(d,1)); return m if m[0]!='(' else g.name()
        if r<.55: return '!'+g.bl()+g.cnot(d-1)
        if r<.7: return '('+g.cond(d-1)+')'
        if r<.85: return g.cond(d-1)+g.bl()+'&&'+g.bl()+g.cond(d-1)
        return g.cond(d-1)+'||'+g.cond(d-1)
    def cnot(g,d): return g.cond(0)
    def expr(g,d):
        if R.random()<.12:
            n=R.randint(2,3); e=','.join(g.member(d-1) for _ in range(n))+':'+g.sub(d-1,n)
        else:
            e=g.member(d)
            while R.random()<.25:
                e+=':'+g.bl()+','.join(g.applied(d-1) for _ in range(pick(1,1,1,2,3)))
        if R.random()<.35:
            os=R.sample(['separator','null','format','wrap','anchor'],R.randint(1,3))
            o=[]
            for k in os:
                if k in('wrap','anchor') and R.random()<.6: o.append(k)
                elif k=='format': o.append(k+'='+(pick("'upper'","'xml'","'url'","'06'","'cap'","'lower'","'zz'","'4'") if R.random()<.8 else g.arg(d-1)))
                elif k=='separator' and R.random()<.6: o.append(k+'='+pick("', '","'\\n'","'-'"))
                else: o.append(k+g.bl()+'='+g.bl()+g.arg(d-1))
            e+=g.bl()+';'+g.bl()+', '.join(o)
        return g.O+g.bl()+e+g.bl()+g.C
    def nl(g): return '' if g.inq else '\n'
    def text(g,d,insub=False,kind=None):
        o=''
        kind=kind or g.kind
        for _ in range(R.choice([0,1,1,2,2,3,4]) if d>0 else R.randint(0,2)):
            r=R.random()
            if r<.3 or d<=-3: o+=pick('w','abc',' ','  ','-','.','\\a','\\\\a','\\'+g.O+'_','\\}_','Zz ','|','"' if not g.inq else "'",'{','=')
            elif r<.42: o+=g.nl()
            elif r<.72: o+=pick('',g.nl()+'  ','')+g.expr(d-1)+pick('',g.nl())
            elif r<.85:
                c=g.cond(min(2,d-1))
                L=pick(True,False)
                def line(t): return (g.nl()+pick('',' ','\t')+t+pick('','  ')+g.nl()) if L else t
                o+=line(g.O+'if('+c+')'+g.C)+g.text(d-2,insub)
                if R.random()<.3: o+=line(g.O+'elseif('+g.cond(1)+')'+g.C)+g.text(d-2,insub)
                if R.random()<.4: o+=line(g.O+'else'+g.C)+g.text(d-2,insub)
                o+=line(g.O+'endif'+g.C)
            elif r<.89: o+=g.O+pick('\\n','\\t','\\ ','\\n\\n\\t')+g.C
            elif r<.91: o+=g.O+'!'+pick('c','<x>','}','')+'!'+g.C+pick('',g.nl())
            elif r<.93 and not g.inq and not g.packed: o+=g.O+'\\\\'+g.C+' \n  '
            elif r<.985 and g.kind=='template' and g.freeregs:
                n=g.freeregs.pop(); g.regs.append(n)
                if R.random()<.4: o+=pick('','  ')+g.O+'@'+n+'()'+g.C
                else:
                    L=pick(True,False)
                    def line(t): return (g.nl()+' '+t+g.nl()) if L else t
                    o+=line(g.O+'@'+n+g.C)+g.text(d-2,insub)+line(g.O+'@end'+g.C)
            elif g.kind=='region' and g.mayup: o+=pick('','  ')+g.O+'@super.'+g.region+'()'+g.C
            else: o+='z'
        return o
def body(g,d):
    k=R.random(); g.inq=k<.4; g.packed=k>=.8
    t=g.text(d)
    if g.inq: return '"'+t.replace('"',"'").replace('\n','')+'"'
    if k<.8: 
        g.inq=False; return '<<'+pick('','\n')+t.replace('>>','> >')+pick('','\n')+pick('\n','')+'>>'
    return '<%'+t.replace('%>','% >')+'.%>'
def const(g,d,key=False):
    r=R.random()
    g.inq=True;g.kind='none'
    if r<.3: return '"'+pick('d','D\\n','','e"'[:1])+'"'
    if r<.6: return g.sub(d,pick(0,0,1))
    if r<.8 and key: return 'key'
    return pick('true','false')
def ws(): return pick('',' ','\n','// c\n','/* x */')
def genfiles():
    nf=pick(1,1,2,3,4)
    tms=[('t%d'%i) for i in range(5)]+['main']
    sig={}
    for t in tms:
        n=R.randint(0,3); ps=R.sample(NAMES,n); k=R.randint(0,n)
        sig[t]=[(p,j>=k) for j,p in enumerate(ps)]
    # main has attributes a,b
    sig['main']=[(p,R.random()<.5) for p in R.sample(['a','b','x','c'],R.randint(0,3))]
    k=sorted(sig['main'],key=lambda z:z[1]); sig['main']=k
    files={}
    defs={f:set() for f in range(nf)}
    for t in tms:
        for f in range(nf):
            if R.random()<(.6 if t!='main' else 0): defs[f].add(t)
        if not any(t in defs[f] for f in range(nf)): defs[0].add(t)
    imports={f:sorted(R.sample(range(f+1,nf),R.randint(0,nf-f-1))) for f in range(nf)}
    for f in range(1,nf):
        if not any(f in imports[e] for e in range(f)): imports[f-1].append(f)
    for f in imports: R.shuffle(imports[f])
    def reach(f):
        o=[f]
        for i in imports[f]:
            for j in reach(i):
                if j not in o: o.append(j)
        return o
    regs={f:{} for f in range(nf)}
    out={}
    for f in reversed(range(nf)):
        g=G(nf); g.file=f
        if R.random()<.25: g.O,g.C=pick(('$','$'),('<','>'),('#','%'),('>','<'),('~','^'))
        g.tm=dict(sig); g.dicts=['d0','d1']
        up=[x for x in reach(f) if x!=f]
        g.sups={t:sig[t] for t in tms if any(t in defs[x] for x in up)}
        s=''
        if (g.O,g.C)!=('<','>') or R.random()<.1: s+='delimiters "%s",%s"%s"%s'%(g.O,ws(),g.C,ws())
        for i in imports[f]: s+='import'+pick(' ','\n')+str(i)+pick(' ','\n')
        parts=[]
        for t in sorted(defs[f]):
            ps=[]
            for p,h in sig[t]:
                ps.append(p+(ws()+'='+ws()+(const(g,1) if R.random()<.85 else '[]') if h else ''))
            g.kind='template'; g.freeregs=['r','s','u'] ; g.regs=[]
            b=body(g,R.randint(1,5))
            regs[f][t]=list(g.regs)
            parts.append(t+ws()+'('+','.join(ps)+')'+ws()+'::='+ws()+b+'\n')
        # regions filled
        for t in tms:
            owner=next((x for x in reach(f) if t in defs[x]),None)
            if owner is None: continue
            for r in regs[owner].get(t,[]):
                if R.random()<.4:
                    g.kind='region'; g.region=r
                    g.mayup=any((t in regs[x] and r in regs[x][t]) for x in up)
                    parts.append('@'+t+'.'+r+'()'+ws()+'::='+body(g,2)+'\n')
        for d in ('d0','d1'):
            if R.random()<.6:
                es=[]
                for kx in R.sample(['k','p','q','keys','a b','s'],R.randint(0,4)):
                    es.append('"'+kx+'"'+ws()+':'+ws()+const(g,1,True))
                if R.random()<.5 or not es: es.append('default:'+const(g,1,True))
                parts.append(d+'::=['+','.join(es)+']\n')
        if R.random()<.3: parts.append('al%d ::= '%f+pick('t0','t1','t2')+'\n')
        R.shuffle(parts)
        s+=''.join(parts)
        out[f]=s
    return out
import re
def mutate(s):
    if R.random()<.6:
        for _ in range(pick(1,1,2)):
            ids=[m for m in re.finditer(r'[A-Za-z_]\w*',s)]
            if not ids: break
            m=pick(*ids); r=R.random()
            if r<.6: new=pick('t0','t1','t2','main','a','b','x','r','s','u','d0','al0','abcdefghijklmnopq','abcdefghijklmnop','if','first','true','super','end','default','key','import','zz','separator','null','wrap','i',pick(*ids).group())
            elif r<.75:
                n=R.randint(16,22); new=pick('[','(','first(')*1
                o,c={'[':('[',']'),'(':('(',')'),'first(':('first(',')')}[new]
                new=o*n+m.group()+c*n
            elif r<.85: new=m.group()+','+m.group()
            elif r<.9: new='!'*R.randint(1,22)+m.group()
            elif r<.95: new=m.group()+'('+pick('','a','a,b','a=a','a=a,a=b','x=a,...','...')+')'
            else: new=m.group()+'='+pick('a','"d"','{x|}')
            s=s[:m.start()]+new+s[m.end():]
        return s
    if R.random()<.15:
        ls=s.split('\n'); i=R.randrange(len(ls)); ls.insert(R.randrange(len(ls)+1),ls[i]); return '\n'.join(ls)
    if R.random()<.1:
        ids=[m for m in re.finditer(r'::=|[:=,.()\[\]@]',s)]
        if ids:
            m=pick(*ids); return s[:m.start()]+pick('::=','::',':=',':',': :=','=','==',',',',,','.','...','(',')','[',']','@')+s[m.end():]
    if R.random()<.1:
        n=R.randint(18,22); return s+'\nzz(a)::="'+pick('<if(a)>'*n+'<endif>'*n,'{'*n+'}'*n,''.join('<@q%d>'%i for i in range(n))+'<@end>'*n,'<'+'{<'*n+'a'+'>}'*n+'>','<a:'+'{<a:'*n+'{}'+'>}'*n+'>')+'"'
    return mutate0(s)
def mutate0(s):
    toks=['<','>','{','}','(',')',',','.',';',':','=','|','||','&&','!','@','"',"'",'[',']','...','\\','super','super.','true','end','else','<endif>','<if(a)>','<@end>','<@r>','<!','!>','abcdefghijklmnopq','a','t0()','9','0','\n',' ','//','/*','*/','<<','>>','<%','%>','::=','import 0','import 3','default','key','first','@t0.r()::=""','i','t1(a=a)',':t2()','{x|','$','separator','null=a','wrap','<\\\\>','<\\n>','<\\x>','<else>','<elseif(b)>','@']
    for _ in range(pick(1,1,1,2,3)):
        p=R.randrange(len(s)+1); r=R.random()
        if r<.35: s=s[:p]+pick(*toks)+s[p:]
        elif r<.7:
            n=pick(1,1,1,2,3,5); s=s[:p]+s[p+n:]
        elif r<.85: s=s[:p]+pick(*toks)+s[p+pick(1,2,3):]
        elif r<.95 and len(s)>4:
            q=R.randrange(len(s)); n=R.randint(1,12); s=s[:p]+s[q:q+n]+s[p:]
        else: s=s[:p]
    return s
def emit(n,out):
    h=House()
    out.append('N %d'%n)
    fs=genfiles()
    for f in fs:
        fs[f]=fs[f].encode('latin1').decode('latin1')[:4000]
    if R.random()<MUT:
        f=pick(*fs); fs[f]=mutate(fs[f])[:4000]
    for f in fs:
        b=fs[f].encode('latin1'); h.files[f]=b
        out.append('T '+b.hex()); out.append('F %d'%f)
    # values
    def w(): return bytes(pick(97,98,65,32,10,45,60,38,49,233,0) for _ in range(R.randint(0,6)))
    n0=R.randint(1,14)
    for v in range(n0):
        k=pick('b','n','w','l','m','B','w','l','B')
        if k=='b': x=R.random()<.5; h.values.append(dict(k='b',v=x)); out.append('vb %d'%x)
        elif k=='n':
            x=pick(0,1,-5,42,-9223372036854775808,9223372036854775807,1234567890123); h.values.append(dict(k='n',v=x)); out.append('vn %d'%x)
        elif k=='w': x=w(); h.values.append(dict(k='w',word=x)); out.append('T '+x.hex()); out.append('vw')
        elif k=='l': h.values.append(dict(k='l',v=[])); out.append('vl')
        elif k=='m': h.values.append(dict(k='m',v=[])); out.append('vm')
        else: x=w(); h.values.append(dict(k='B',word=x,props=[])); out.append('T '+x.hex()); out.append('vB')
    BIG=len(sys.argv)>5
    if BIG: big(h,out)
    beans=[i for i,v in enumerate(h.values) if v['k']=='B']
    for i,v in enumerate(h.values):
        may=list(range(i))+beans+[-1]
        if v.get('big'): continue
        if v['k']=='l':
            for _ in range(R.randint(0,4)):
                x=pick(*may); v['v'].append(x); out.append('add %d %d'%(i,x))
        if v['k']=='m':
            for _ in range(R.randint(0,4)):
                x=pick(*may); key=pick(b'p',b'q',b'k',b'keys',b'a b',b's'); out.append('T '+key.hex()); out.append('entry %d %d'%(i,x))
                for j,(kk,_) in enumerate(v['v']):
                    if kk==key: v['v'][j]=(key,x); break
                else: v['v'].append((key,x))
        if v['k']=='B':
            for _ in range(R.randint(0,5)):
                x=pick(*(list(range(n0))+[-1,-2])); key=pick(b'p',b'q',b'k',b's'); so=R.randrange(4)
                if any(a==key and b==so for a,b,_ in v['props']): continue
                v['props'].append((key,so,x)); out.append('T '+key.hex()); out.append('prop %d %d %d'%(i,so,x))
    for _ in range(R.randint(0,6)):
        nm=pick(b'a',b'b',b'x',b'c',b'p',b'q',b'i'); x=pick(*(list(range(n0))+[-1]))
        h.added.append((nm,x)); out.append('T '+nm.hex()); out.append('attr %d'%x)
    if BIG:
        for nm in (b'a',b'b',b'x'):
            x=pick(*[i for i,v in enumerate(h.values) if v.get('big')]); h.added.append((nm,x)); out.append('T '+nm.hex()); out.append('attr %d'%x)
    h.w=pick(0,0,5,10,30); out.append('width %d'%h.w)
    r=h.load(0)
    out.append('L 0 '+(str(r) if r is not None else '%d,%d,%d'%h.fault))
    STAT['fault' if r is None else 'ok']=STAT.get('fault' if r is None else 'ok',0)+1
    if r is None: k='F%d'%h.fault[0]; STAT[k]=STAT.get(k,0)+1
    if r is None: return
    for t in ['main']+R.sample(['t0','t1','t2','al0','zz'],1):
        out.append('T '+t.encode().hex()); e=h.begin(t.encode()); out.append('B '+e)
        if e: continue
        def st(): out.append('S %d,%d,%d,%d,%d'%((h.shown,)+tuple(h.told())+(h.state,)))
        st()
        for _ in range(R.randint(0,4)):
            if h.state!=1: break
            k=R.randint(1,20); out.append('R %d %d'%(k,h.run(k))); st()
        while h.state==1:
            out.append('R 12000 %d'%h.run(12000)); st()
        es=h.m.errors[:400]; ls=h.m.looks[:1000]
        for x in es: STAT['E%d'%x[0]]=STAT.get('E%d'%x[0],0)+1
        out.append('C '+bytes(h.m.text).hex()+' '+''.join('%d,%d,%d;'%x for x in es)+' '+''.join('%d,%d;'%x for x in ls))
def big(h,out):
    w=bytes(pick(97,98,32,10,99) for _ in range(pick(300,999,1000,1001,3000)))
    h.values.append(dict(k='w',word=w,big=1)); out.append('T '+w.hex()); out.append('vw'); wi=len(h.values)-1
    for lev in range(R.randint(1,3)):
        n=pick(10,50,100,100); may=[-1,0,wi,len(h.values)-1,len(h.values)-1]
        l=[pick(*may) if R.random()<.3 else pick(0,len(h.values)-1) for _ in range(n)]
        h.values.append(dict(k='l',v=l,big=1)); out.append('vl')
        for x in l: out.append('add %d %d'%(len(h.values)-1,x))
STAT={}
if __name__=='__main__':
    out=[]
    def job():
        for n in range(N): emit(n,out)
    threading.stack_size(512*1024*1024); th=threading.Thread(target=job); th.start(); th.join()
    open(sys.argv[4],'w').write('\n'.join(out)+'\n')
    print(STAT,file=sys.stderr)
