# An independent model of DOC.md: trees and recursion.
import sys
sys.setrecursionlimit(100000)
NL=10
class Fault(Exception):
    def __init__(s,n,f,p): s.n=n; s.f=f; s.p=p
class Ends(Exception): pass
LET=set(b'abcdefghijklmnopqrstuvwxyzABCDEFGHIJKLMNOPQRSTUVWXYZ_')
ROW=LET|set(b'0123456789')
BL=set(b' \t\n')
FUN=['first','last','rest','trunc','strip','reverse','length','strlen','trim']
TAGW=set(FUN+['if','elseif','else','endif','super','true','false'])
FILEW={'delimiters','import','default','key','true','false'}

class T:  # a text source: bytes with places
    def __init__(s,b,pl,end): s.b=b; s.pl=pl+[end]; s.n=len(b)
    def at(s,p): return s.b[p] if p<s.n else -1

def row(t,p):
    q=p
    while q<t.n and t.b[q] in ROW: q+=1
    return q

class Parser:
    """tags and TEXTS"""
    def __init__(s,fno,t,p,op,cl,ctx):
        s.f=fno; s.t=t; s.p=p; s.op=op; s.cl=cl; s.ctx=ctx   # ctx: dict kind, owner, region
    def F(s,n,p=None): raise Fault(n,s.f,s.t.pl[s.p if p is None else p])
    def pk(s): return s.t.at(s.p)
    def ch(s):
        c=s.pk(); return chr(c) if c>=0 else ''
    def bl(s):
        while s.pk() in BL: s.p+=1
    def need(s,c):
        s.bl()
        if s.ch()!=c: s.F(1)
        s.p+=1
    def name(s):
        s.bl()
        if s.pk() not in LET: s.F(1)
        q=row(s.t,s.p); w=s.t.b[s.p:q].decode()
        if w in TAGW: s.F(1)
        if len(w)>16: s.F(2)
        s.p=q
        return w
    def string(s):
        qd=s.pk(); p=s.p+1
        while True:
            if p>=s.t.n: s.F(1,s.t.n)
            if s.t.b[p]==NL: s.F(1,p)
            if s.t.b[p]==qd: break
            p+=1
        raw=s.t.b[s.p+1:p]; s.p=p+1
        return unesc(raw)
    # flat TEXT -> items; returns when the text is over (limit, or } in a SUB)
    def text(s,depth,insub):
        items=[]; stack=[]  # stack of open: 'if','else','reg'
        while True:
            if s.p>=s.t.n: break
            c=s.pk(); pl=s.t.pl[s.p]
            if insub and c==125: break
            if c==NL: items.append(['nl',pl]); s.p+=1; continue
            if c==s.op: s.tag(items,stack,depth+len(stack),insub); continue
            if c==92:
                d=s.t.at(s.p+1)
                if d in (s.op,92,125):
                    items.append(['b',d,pl,True]); s.p+=2; continue
            items.append(['b',c,pl,False]); s.p+=1
        if stack: s.F(1)
        return build(lines(items))
    def tag(s,items,stack,depth,insub):
        op=s.t.pl[s.p]; s.p+=1
        if s.ch()=='!':
            p=s.p+1
            while p<s.t.n and not (s.t.b[p]==33 and s.t.at(p+1)==s.cl): p+=1
            if p>=s.t.n: s.F(1,s.t.n)
            s.p=p+2; items.append(['comment']); return
        if s.ch()=='\\':
            bs=[]
            if s.t.at(s.p+1)==92:
                s.p+=2
                if s.pk()!=s.cl: s.F(1)
                s.p+=1
                while s.pk() in (32,9): s.p+=1
                if s.pk()!=NL: s.F(1)
                s.p+=1
                while s.pk() in (32,9): s.p+=1
                items.append(['join']); return
            while s.ch()=='\\':
                s.p+=1
                m={'n':10,'t':9,' ':32}
                if s.ch() not in m: s.F(1)
                bs.append(m[s.ch()]); s.p+=1
            if s.pk()!=s.cl: s.F(1)
            s.p+=1
            items.append(['raw',bs,op]); return
        s.bl()
        if s.ch()=='@': return s.reg(items,stack,depth,op)
        q=row(s.t,s.p); w=s.t.b[s.p:q].decode() if s.pk() in LET else ''
        if w=='if':
            if depth+1>20: s.F(4)
            s.p=q; c=s.condp(depth)
            stack.append('if'); items.append(['if',op,c]); return
        if w in('elseif','else','endif'):
            if not stack or stack[-1]=='reg' or (stack[-1]=='else' and w!='endif'): s.F(1)
            s.p=q
            if w=='elseif': items.append(['elseif',s.condp(depth-1)])
            elif w=='else': s.need(chr(s.cl)); stack[-1]='else'; items.append(['else'])
            else: s.need(chr(s.cl)); stack.pop(); items.append(['endif'])
            return
        # EXPR
        ms=[s.member(depth)]
        s.bl()
        while s.ch()==',':
            s.p+=1; ms.append(s.member(depth)); s.bl()
        if len(ms)>1:
            s.need(':'); s.bl()
            if s.ch()!='{': s.F(1)
            at=s.t.pl[s.p]; sub=s.sub(depth+1)
            if len(sub['params'])!=len(ms): s.ctx['late'].append((at,7))
            e=('zip',ms,sub)
        else:
            e=ms[0]
            while s.ch()==':':
                s.p+=1
                ap=[s.applied(depth)]; s.bl()
                while s.ch()==',':
                    s.p+=1; ap.append(s.applied(depth)); s.bl()
                e=('apply',e,ap)
        s.bl()
        opts=[]
        if s.ch()==';':
            while True:
                s.p+=1; s.bl()
                q=row(s.t,s.p); w=s.t.b[s.p:q].decode()
                if w not in('separator','null','format','wrap','anchor'): s.F(1)
                if w in [o[0] for o in opts]: s.F(3)
                s.p=q; s.bl()
                if s.ch()=='=':
                    s.p+=1; s.bl(); pl=s.t.pl[s.p]
                    opts.append((w,s.arg(depth+1),pl))
                elif w=='wrap': opts.append((w,('str',b'\n'),0))
                elif w=='anchor': opts.append((w,('bool',True),0))
                else: s.F(1)
                s.bl()
                if s.ch()!=',': break
        s.need(chr(s.cl))
        items.append(['expr',op,opts,e])
    def condp(s,depth):
        s.need('('); c=s.cond(depth); s.need(')'); s.need(chr(s.cl)); return c
    def reg(s,items,stack,depth,op):
        sign=s.p; s.p+=1; s.bl()
        q=row(s.t,s.p)
        if q==s.p: s.F(1)
        w=s.t.b[s.p:q].decode()
        k=s.ctx['kind']
        if w=='end':
            if not stack or stack[-1]!='reg': s.F(1)
            s.p=q; s.need(chr(s.cl)); stack.pop(); items.append(['@end']); return
        if w=='super':
            if k!='region': s.F(1,sign)
            s.p=q; s.need('.'); s.bl()
            q=row(s.t,s.p); w=s.t.b[s.p:q].decode(); pl=s.t.pl[s.p]
            if s.pk() not in LET or w in TAGW: s.F(1)
            if w!=s.ctx['region']: s.F(1,sign)
            s.p=q; s.need('('); s.need(')'); s.need(chr(s.cl))
            s.ctx['supers'].append((pl,s.ctx['owner'],w))
            items.append(['@super',op,s.ctx['owner'],w,s.f]); return
        if k!='template': s.F(1,sign)
        pl=s.p; n=s.name()
        if n in s.ctx['regions']: s.F(3,pl)
        s.bl()
        if s.ch()=='(':
            s.p+=1; s.need(')'); s.need(chr(s.cl))
            s.ctx['regions'][n]=dict(file=s.f,params=[],body=[],defaults=[])
            items.append(['@call',op,s.ctx['owner'],n]); return
        s.need(chr(s.cl))
        if depth+1>20: s.F(4,sign)
        stack.append('reg')
        d=dict(file=s.f,params=[],body=None,defaults=[])
        s.ctx['regions'][n]=d
        items.append(['@reg',op,s.ctx['owner'],n,d])
    def arg(s,depth):
        s.bl()
        if depth>20:
            c=s.ch()
            if c and c in '"\'{[(': s.F(4)
            if s.pk() not in LET: s.F(1)
            q=row(s.t,s.p); w=s.t.b[s.p:q].decode()
            if w in('if','elseif','else','endif'): s.F(1)
            if len(w)>16: s.F(2)
            s.F(4)
        e=s.member(depth); s.bl()
        while s.ch()==':':
            s.p+=1; a=s.applied(depth); e=('apply',e,[a]); s.bl()
        return e
    def member(s,depth):
        e=s.primary(depth); s.bl()
        while s.ch()=='.':
            pl=s.t.pl[s.p]; s.p+=1; s.bl()
            if s.ch()=='(':
                s.p+=1; a=s.arg(depth+1); s.need(')'); e=('dotby',e,a,pl)
            else: e=('dot',e,s.name(),pl)
            s.bl()
        return e
    def primary(s,depth):
        s.bl(); c=s.ch(); pl=s.t.pl[s.p]
        if c=='"' or c=="'": return('str',s.string())
        if c=='{': return('sub',s.sub(depth+1))
        if c=='[':
            s.p+=1; s.bl(); it=[]
            if s.ch()==']': s.p+=1; return('list',it)
            while True:
                s.bl()
                if s.ch() and s.ch() in ',]': it.append(None)
                else: it.append(s.arg(depth+1)); s.bl()
                if s.ch()==',': s.p+=1; continue
                s.need(']'); return('list',it)
        if c=='(':
            s.p+=1; a=s.arg(depth+1); s.need(')'); s.bl()
            if s.ch()=='(':
                s.p+=1; return('callby',a,s.args(depth),pl)
            return('word',a)
        if s.pk() in LET:
            q=row(s.t,s.p); w=s.t.b[s.p:q].decode()
            if w in('true','false'): s.p=q; return('bool',w=='true')
            if w=='super':
                return s.supercall(q,depth)
            if w in FUN:
                s.p=q; s.need('('); a=s.arg(depth+1); s.need(')'); return('fun',w,a,pl)
        n=s.name(); s.bl()
        if s.ch()=='(':
            s.p+=1; a=s.args(depth); c=['call',n,a,pl,False,s.f,False]; s.ctx['calls'].append(c); return c
        return('name',n,pl)
    def supercall(s,q,depth):
        s.p=q; s.need('.'); s.bl(); pl=s.t.pl[s.p]; n=s.name(); s.need('('); a=s.args(depth)
        c=['call',n,a,pl,True,s.f,False]; s.ctx['calls'].append(c); return c
    def args(s,depth):
        s.bl(); out=dict(pos=[],named=None,dots=False)
        if s.ch()==')': s.p+=1; return out
        if s.t.b[s.p:s.p+3]==b'...': s.p+=3; out['dots']=True; out['named']=[]; s.need(')'); return out
        q=row(s.t,s.p); r=q
        while s.t.at(r) in BL: r+=1
        if q>s.p and s.t.at(r)==61:
            nm=[]
            while True:
                s.bl()
                if nm and s.t.b[s.p:s.p+3]==b'...': s.p+=3; out['dots']=True; break
                pl=s.p; n=s.name()
                if n in [x[0] for x in nm]: s.F(3,pl)
                s.need('='); a=s.arg(depth+1); nm.append((n,a,s.t.pl[pl])); s.bl()
                if s.ch()!=',': break
                s.p+=1
            out['named']=nm; s.need(')'); return out
        while True:
            out['pos'].append(s.arg(depth+1)); s.bl()
            if s.ch()!=',': break
            s.p+=1
        s.need(')'); return out
    def applied(s,depth):
        s.bl(); c=s.ch(); pl=s.t.pl[s.p]
        if c=='{':
            sub=s.sub(depth+1)
            if len(sub['params'])>1: s.ctx['late'].append((pl,7))
            return('sub',sub)
        if c=='(':
            s.p+=1; a=s.arg(depth+1); s.need(')'); s.need('('); return('by',a,s.args(depth),pl)
        q=row(s.t,s.p)
        if s.t.b[s.p:q]==b'super':
            c=s.supercall(q,depth); c[6]=True; return c
        n=s.name(); s.need('('); c=['call',n,s.args(depth),pl,False,s.f,True]; s.ctx['calls'].append(c); return c
    def sub(s,depth):
        if depth>20: s.F(4)
        s.p+=1
        # params?
        p=s.p; ws=[]
        while True:
            while s.t.at(p) in BL: p+=1
            if s.t.at(p) not in LET: ws=None; break
            q=row(s.t,p); ws.append((p,s.t.b[p:q].decode())); p=q
            while s.t.at(p) in BL: p+=1
            if s.t.at(p)==44: p+=1; continue
            if s.t.at(p)==124: p+=1; break
            ws=None; break
        ps=[]
        if ws:
            for a,w in ws:
                if len(w)>16: s.F(2,a)
                if w in ps: s.F(3,a)
                if len(ps)==12: s.F(4,a)
                ps.append(w)
            s.p=p
        d=dict(file=s.f,params=ps,defaults=[None]*len(ps),body=None)
        d['body']=s.text(depth,True)
        if s.ch()!='}': s.F(1)
        s.p+=1
        return d
    def cond(s,depth):
        e=s.and_(depth); s.bl()
        while s.t.b[s.p:s.p+2]==b'||':
            s.p+=2; e=('or',e,s.and_(depth)); s.bl()
        return e
    def and_(s,depth):
        e=s.not_(depth); s.bl()
        while s.t.b[s.p:s.p+2]==b'&&':
            s.p+=2; e=('and',e,s.not_(depth)); s.bl()
        return e
    def not_(s,depth):
        s.bl()
        if s.ch()=='!':
            if depth+1>20: s.F(4)
            s.p+=1; return('not',s.not_(depth+1))
        if s.ch()=='(':
            if depth+1>20: s.F(4)
            s.p+=1; c=s.cond(depth+1); s.need(')'); return c
        return('test',s.member(depth))

def unesc(raw):
    o=[];i=0
    while i<len(raw):
        c=raw[i]
        if c==92 and i+1<len(raw):
            i+=1; c={110:10,116:9}.get(raw[i],raw[i])
        o.append(c); i+=1
    return bytes(o)

LINETAGS=('if','elseif','else','endif','@reg','@end','comment')
def lines(items):
    out=[]; cur=[]
    ls=[]
    for it in items:
        cur.append(it)
        if it[0]=='nl': ls.append(cur); cur=[]
    ls.append(cur)
    for l in ls:
        rest=[x for x in l if x[0]!='nl' and not(x[0]=='b' and x[1] in(32,9))]
        if len(rest)==1 and rest[0][0] in LINETAGS:
            out.append(rest[0]); continue
        i=0
        while i<len(l) and l[i][0]=='b' and l[i][1] in(32,9): i+=1
        if i and i<len(l) and l[i][0] in('expr','@call','@super'):
            l[i]=l[i]+[bytes(x[1] for x in l[:i])]
            l=l[i:]
        elif i<len(l) and l[i][0] in('expr','@call','@super'):
            l[i]=l[i]+[b'']
        for j in range(len(l)):
            if l[j][0] in('expr','@call','@super') and not isinstance(l[j][-1],bytes): l[j]=l[j]+[b'']
        out+=l
    return out
def build(items):
    root=[]; stack=[root]; open_=[]
    for it in items:
        k=it[0]
        if k in('comment','join'): continue
        if k=='if':
            node=['if',it[1],[(it[2],[])]]; stack[-1].append(node); open_.append(node); stack.append(node[2][0][1])
        elif k=='elseif':
            node=open_[-1]; node[2].append((it[1],[])); stack[-1]=node[2][-1][1]
        elif k=='else':
            node=open_[-1]; node[2].append((None,[])); stack[-1]=node[2][-1][1]
        elif k=='endif': stack.pop(); open_.pop()
        elif k=='@reg':
            it[4]['body']=[]; stack[-1].append(['@call',it[1],it[2],it[3],b'']); stack.append(it[4]['body']); open_.append(it)
        elif k=='@end': stack.pop(); open_.pop()
        else: stack[-1].append(it)
    return root

class FileParser:
    def __init__(s,h,f,way):
        s.h=h; s.f=f; s.b=h.files[f]; s.n=len(s.b); s.p=0; s.way=way
        s.defs=[]; s.imports=[]
        s.calls=[]; s.late=[]; s.supers=[]
        s.t=T(s.b,list(range(s.n)),s.n)
        s.op,s.cl=60,62
    def F(s,n,p=None): raise Fault(n,s.f,s.p if p is None else p)
    def past(s,p):
        b=s.b
        while p<s.n:
            if b[p] in BL: p+=1
            elif b[p:p+2]==b'//':
                while p<s.n and b[p]!=NL: p+=1
            elif b[p:p+2]==b'/*':
                e=b.find(b'*/',p+2)
                if e<0: return -1
                p=e+2
            else: return p
        return s.n
    def sk(s):
        p=s.past(s.p)
        if p<0: s.F(1,s.n)
        s.p=p
    def ch(s): return chr(s.b[s.p]) if s.p<s.n else ''
    def need(s,w):
        s.sk()
        sign=s.b[s.p:s.p+3] if s.b[s.p:s.p+3]==b'::=' else s.b[s.p:s.p+1]
        if sign!=w.encode(): s.F(1)
        s.p+=len(w)
    def word(s):
        return s.b[s.p:row(s.t,s.p)].decode()
    def name(s):
        s.sk(); w=s.word()
        if not w or s.b[s.p] not in LET or w in FILEW: s.F(1)
        if len(w)>16: s.F(2)
        s.p+=len(w); return w
    def strend(s):
        p=s.p+1
        while True:
            if p>=s.n: s.F(1,s.n)
            if s.b[p]==NL: s.F(1,p)
            if s.b[p]==34: return p
            p+=1
    def parse(s):
        s.sk()
        if s.word()=='delimiters':
            s.p+=10; ds=[]
            for i in range(2):
                if i: s.need(',')
                s.sk()
                if s.ch()!='"': s.F(1)
                e=s.strend(); d=s.b[s.p+1:e]
                if len(d)!=1 or d[0] in ROW or d in b' \t\n' or d in b'"\'(){}[],.:;=|!&@\\_': s.F(2)
                ds.append(d[0]); s.p=e+1
            s.op,s.cl=ds
            s.sk()
        while s.word()=='import':
            s.p+=6; s.sk()
            if not s.ch() or s.ch() not in '01234567': s.F(1)
            k=int(s.ch())
            if k in s.way or not s.h.files[k]: s.F(5)
            s.imports.append(k); s.p+=1; s.sk()
        s.sk()
        while s.p<s.n:
            s.definition(); s.sk()
    def body(s,ctx,params,defaults):
        s.sk(); b=s.b
        if s.ch()=='"':
            e=s.strend(); fr,to,nx=s.p+1,e,e+1; idx=list(range(fr,to))
        elif b[s.p:s.p+2]==b'<<':
            e=b.find(b'>>',s.p+2)
            if e<0: s.F(1,s.n)
            fr,to,nx=s.p+2,e,e+2
            if fr<to and b[fr]==NL: fr+=1
            if fr<to and b[to-1]==NL: to-=1
            idx=list(range(fr,to))
        elif b[s.p:s.p+2]==b'<%':
            e=b.find(b'%>',s.p+2)
            if e<0: s.F(1,s.n)
            nx=e+2; idx=[]; i=s.p+2
            while i<e:
                if b[i]==NL:
                    i+=1
                    while i<e and b[i] in(32,9): i+=1
                else: idx.append(i); i+=1
        else: s.F(1)
        t=T(bytes(b[i] for i in idx),idx,e)
        p=Parser(s.f,t,0,s.op,s.cl,ctx)
        d=dict(file=s.f,params=params,defaults=defaults,body=p.text(0,False))
        s.p=nx
        return d
    def ctx(s,kind,owner=None,region=None):
        return dict(kind=kind,owner=owner,region=region,regions={},calls=s.calls,late=s.late,supers=s.supers)
    def const(s,key):
        s.sk()
        if s.ch()=='"':
            e=s.strend(); v=('str',unesc(s.b[s.p+1:e])); s.p=e+1; return v
        if s.ch()=='{':
            p=Parser(s.f,s.t,s.p,s.op,s.cl,s.ctx('none'))
            d=p.sub(1); s.p=p.p; return('sub',d)
        w=s.word()
        if w in('true','false') : s.p+=len(w); return('bool',w=='true')
        if key and w=='key': s.p+=3; return('key',)
        s.F(1)
    def definition(s):
        at=s.p
        if s.ch()=='@':
            if len(s.defs)==40: s.F(4)
            s.p+=1; t=s.name(); s.need('.'); s.sk(); p2=s.p; r=s.name()
            if any(d['k']=='region' and d['name']==t and d['r']==r for d in s.defs): s.F(3,p2)
            s.need('('); s.need(')'); s.need('::=')
            s.defs.append(dict(k='region',name=t,r=r,at=at,p2=p2,d=s.body(s.ctx('region',t,r),[],[])))
            return
        n=s.name()
        if any(d['k']!='region' and d['name']==n for d in s.defs): s.F(3,at)
        if len(s.defs)==40: s.F(4,at)
        s.sk()
        if s.ch()=='(':
            s.p+=1; ps=[]; df=[]
            s.sk()
            if s.ch()!=')':
                while True:
                    s.sk(); a=s.p; w=s.name()
                    if w in ps: s.F(3,a)
                    q=s.past(s.p); has=q>=0 and s.b[q:q+1]==b'='
                    if not has and any(x is not None for x in df): s.F(3,a)
                    if len(ps)==12: s.F(4,a)
                    s.sk(); ps.append(w)
                    if has:
                        s.p+=1; s.sk()
                        if s.ch()=='[': s.p+=1; s.need(']'); df.append(('list',[]))
                        else: df.append(s.const(False))
                        s.sk()
                    else: df.append(None)
                    if s.ch()!=',': break
                    s.p+=1
            s.need(')'); s.need('::=')
            c=s.ctx('template',n)
            s.defs.append(dict(k='template',name=n,at=at,d=s.body(c,ps,df),regions=c['regions']))
            return
        s.need('::='); s.sk()
        if s.ch()=='[':
            s.p+=1; es=[]; other=None
            while True:
                s.sk()
                if s.ch()=='"':
                    a=s.p; e=s.strend(); k=unesc(s.b[s.p+1:e])
                    if any(x[0]==k for x in es): s.F(3,a)
                    s.p=e+1; s.need(':'); es.append((k,s.const(True))); s.sk()
                    if s.ch()==',': s.p+=1; continue
                    break
                if s.word()!='default': s.F(1)
                s.p+=7; s.need(':'); other=s.const(True); break
            s.need(']')
            s.defs.append(dict(k='dict',name=n,at=at,es=es,other=other,file=s.f))
        else:
            a=s.p; w=s.name()
            s.defs.append(dict(k='alias',name=n,at=at,to=w,p2=a))

class Generation:
    def __init__(g,h,k):
        g.k=k; g.files={}; g.read=[]
        g.h=h
        g.readfile(k,[])
        for f in g.read: g.check(f)
    def readfile(g,f,way):
        p=FileParser(g.h,f,way+[f]); p.parse(); g.files[f]=p; g.read.append(f) if f not in g.read else None
        for i in p.imports:
            if i not in g.files: g.readfile(i,way+[f])
    # has: what a file has
    def own(g,f,kind,n):
        for d in g.files[f].defs:
            if kind=='t' and d['k'] in('template','alias') and d['name']==n: return d
            if kind=='d' and d['k']=='dict' and d['name']==n: return d
        if kind=='r':
            for d in g.files[f].defs:
                if d['k']=='region' and (d['name'],d['r'])==n: return d['d']
            for d in g.files[f].defs:
                if d['k']=='template' and d['name']==n[0] and n[1] in d['regions']: return d['regions'][n[1]]
    def has(g,f,kind,n):
        d=g.own(f,kind,n)
        return d if d is not None else g.sup(f,kind,n)
    def sup(g,f,kind,n):
        for i in g.files[f].imports:
            d=g.has(i,kind,n)
            if d is not None: return d
    def tmpl(g,d):
        seen=0
        while d is not None and d['k']=='alias' and seen<400:
            d=g.has(g.k,'t',d['to']); seen+=1
        return d['d'] if d is not None and d['k']=='template' else None
    def check(g,f):
        p=g.files[f]; fs=[]
        for d in p.defs:
            if d['k']=='alias':
                x=g.has(g.k,'t',d['to'])
                if x is None: fs.append((d['p2'],6))
                n=0
                while x is not None and x['k']=='alias' and n<400:
                    if x is d: fs.append((d['at'],10)); break
                    x=g.has(g.k,'t',x['to']); n+=1
            if d['k']=='region':
                # the file that has it
                x=g.has(f,'t',d['name'])
                if x is None or x['k']!='template' or d['r'] not in x['regions']: fs.append((d['p2'],9))
        fs+=p.late
        for pl,t,r in p.supers:
            if g.sup(f,'r',(t,r)) is None: fs.append((pl,9))
        for c in p.calls:
            _,n,a,pl,sup,_,ap=c
            d=g.sup(f,'t',n) if sup else g.has(g.k,'t',n)
            if d is None: fs.append((pl,9 if sup else 6)); continue
            t=g.tmpl(d)
            if t is None: continue
            ps=t['params']; given=set()
            bad=False
            if ap:
                if not ps: bad=True
                else: given.add(ps[0])
            if a['named'] is None:
                room=ps[1:] if ap else ps
                if len(a['pos'])>len(room): bad=True
                given|=set(room[:len(a['pos'])])
            else: given|=set(x[0] for x in a['named'])
            if not a['dots']:
                for q,df in zip(ps,t['defaults']):
                    if df is None and q not in given: bad=True
            if bad: fs.append((pl,7))
            for x in a['named'] or []:
                if x[0] not in ps: fs.append((x[2],8))
        if fs:
            pl,n=min(fs); raise Fault(n,f,pl)
    def count(g):
        names=set()
        for f in g.read:
            for d in g.files[f].defs:
                if d['k'] in('template','alias'): names.add(d['name'])
        return len(names)

class Inst:
    def __init__(s,d,parent): s.d=d; s.parent=parent; s.attrs={}
class W:  # writer
    def __init__(s,main): s.main=main; s.col=0; s.bol=True; s.n=0; s.ind=[]; s.anchor=[]; s.out=bytearray()
class Making:
    def __init__(m,h,g,d,added,width):
        m.h=h; m.g=g; m.width=width
        m.text=bytearray(); m.snap=[]; m.errors=[]; m.looks=[]; m.made=0; m.written=0; m.words=0; m.listed=0
        m.open=[]; m.ended=False
        root=m.inst(d,None); 
        groups={}
        for n,v in added: groups.setdefault(n,[]).append(v)
        for n,vs in groups.items():
            if len(vs)==1: v=vs[0]
            else:
                l=[]
                for x in vs: l+= x[1] if x is not None and x[0]=='l' else [x]
                v=m.list(l)
            root.attrs[n.decode('latin1')]=v
        m.defaults(root,None,False,root.attrs.keys())
        m.first=m.made
        m.w=W(True)
        try: m.write(('i',root),{})
        except Ends:
            m.err(8,m.open[-1].at if m.open else 0); m.ended=True
    def err(m,n,pl): m.errors.append((n,m.open[-1].d['file'],pl))
    def inst(m,d,parent):
        if m.made>=2000: raise Ends()
        m.made+=1
        return Inst(d,parent)
    def list(m,l):
        if m.listed+len(l)>20000: raise Ends()
        m.listed+=len(l); return('l',l)
    def one(m):
        if m.listed+1>20000: raise Ends()
        m.listed+=1
    def defaults(m,i,at,dots,given):
        given=list(given)
        for p,df in zip(i.d['params'],i.d['defaults']):
            if p in given: continue
            if df is None:
                i.attrs[p]=None
                if dots:
                    ok,v=m.look(at,p)
                    if ok: i.attrs[p]=v
            elif df[0]=='sub':
                s=m.inst(df[1],i); s.attrs={q:None for q in df[1]['params']}; i.attrs[p]=('i',s)
            elif df[0]=='str': i.attrs[p]=('w',df[1])
            elif df[0]=='bool': i.attrs[p]=('b',df[1])
            else: i.attrs[p]=('l',[])
    def look(m,i,n):
        while i is not None:
            if n in i.attrs: return True,i.attrs[n]
            i=i.parent
        d=m.g.has(m.g.k,'d',n)
        if d is not None: return True,('d',d)
        return False,None
    def subinst(m,d):
        i=m.inst(d,m.open[-1]); i.attrs={p:None for p in d['params']}; return i
    def dval(m,v,key):
        if v[0]=='str': return('w',v[1])
        if v[0]=='bool': return('b',v[1])
        if v[0]=='key': return('w',key)
        i=m.inst(v[1],None); i.attrs={p:None for p in v[1]['params']}; return('i',i)
    def opened(m,v):
        if v is not None and v[0]=='d':
            d=v[1]
            if m.listed+len(d['es'])>20000: raise Ends()
            m.listed+=len(d['es'])
            return('l',[m.dval(x,k) for k,x in d['es']])
        return v
    def onebyone(m,v):
        v=m.opened(v)
        if v is None: return []
        if v[0]=='l': return v[1]
        if v[0]=='m': return [x[1] for x in v[1]]
        return [v]
    def many(m,v): return v is not None and v[0] in 'lmd'
    def true(m,v):
        if v is None: return False
        if v[0]=='b': return v[1]
        if v[0] in 'lm': return len(v[1])>0
        if v[0]=='d': return len(v[1]['es'])>0
        return True
    def word(m,v):
        old=m.w; m.w=W(False)
        m.write(v,{})
        b=bytes(m.w.out[:1000]); m.w=old
        if m.words+len(b)>40000: raise Ends()
        m.words+=len(b)
        return b
    # evaluation
    def ev(m,e):
        k=e[0]; me=m.open[-1]
        if k=='str': return('w',e[1])
        if k=='bool': return('b',e[1])
        if k=='sub': return('i',m.subinst(e[1]))
        if k=='name':
            ok,v=m.look(me,e[1])
            if not ok: m.err(1,e[2])
            return v
        if k=='list':
            vs=[m.ev(x) if x is not None else None for x in e[1]]
            o=[]
            for v in vs:
                if v is not None and v[0] in 'lm': o+=m.onebyone(v)
                else: o.append(v)
            return m.list(o[:100])
        if k=='word': return('w',m.word(m.ev(e[1])))
        if k=='call':
            d=m.g.tmpl(m.g.sup(e[5],'t',e[1]) if e[4] else m.g.has(m.g.k,'t',e[1]))
            return('i',m.call(d,e[2],None,e[3],()))
        if k=='callby':
            d=m.tby(m.ev(e[1]),e[3])
            if d is None: return None
            return('i',m.call(d,e[2],None,e[3],()))
        if k=='dot': 
            v=m.ev(e[1]); return m.prop(v,e[2].encode(),e[3])
        if k=='dotby':
            v=m.ev(e[1]); n=m.ev(e[2])
            if n is None: m.err(4,e[3]); return None
            return m.prop(v,m.word(n),e[3])
        if k=='fun': return m.fun(e[1],m.ev(e[2]),e[3])
        if k=='apply': return m.apply(m.ev(e[1]),e[2])
        if k=='zip':
            vs=[m.ev(x) for x in e[1]]
            ls=[m.onebyone(v) for v in vs]
            n=max(len(l) for l in ls)
            if n==0: return None
            o=[]
            for j in range(n):
                i=m.inst(e[2],me); i.attrs['i']=('n',j+1); i.attrs['i0']=('n',j)
                for p,l in zip(e[2]['params'],ls): i.attrs[p]=l[j] if j<len(l) else None
                m.one(); o.append(('i',i))
            return('l',o)
        raise Exception(k)
    def tby(m,v,pl):
        if v is None: m.err(2,pl); return None
        w=m.word(v)
        x=m.g.has(m.g.k,'t',w.decode('latin1'))
        if x is None: m.err(2,pl); return None
        return m.g.tmpl(x)
    def call(m,d,a,turn,pl,val):
        me=m.open[-1]
        pos=[]; nm=[]
        if a['named'] is None: pos=[m.ev(x) for x in a['pos']]
        else: nm=[(x[0],m.ev(x[1])) for x in a['named']]
        ps=d['params']
        at={}
        if val:
            if not ps: m.err(3,pl); room=[]
            else: at[ps[0]]=val[0]; room=ps[1:]
        else: room=ps
        if len(pos)>len(room): m.err(3,pl)
        for p,v in zip(room,pos): at[p]=v
        for n,v in nm:
            if n in ps: at[n]=v
            else: m.err(3,pl)
        i=m.inst(d,me)
        if turn: i.attrs['i']=('n',turn); i.attrs['i0']=('n',turn-1)
        for p,v in at.items(): i.attrs[p]=v
        for p in ps:
            if p not in at: i.attrs.pop(p,None)
        m.defaults(i,me,a['dots'],at.keys())
        return i
    def apply(m,v,aps):
        if v is None: return None
        by=[]
        for a in aps:
            if a[0]=='by': by.append(m.tby(m.ev(a[1]),a[3]))
            else: by.append(None)
        many=m.many(v)
        vs=m.onebyone(v)
        o=[]
        for n,x in enumerate(vs,1):
            a=aps[(n-1)%len(aps)]; d=by[(n-1)%len(aps)]
            r=None
            if x is not None:
                if a[0]=='sub':
                    i=m.inst(a[1],m.open[-1]); i.attrs['i']=('n',n); i.attrs['i0']=('n',n-1)
                    if a[1]['params']: i.attrs[a[1]['params'][0]]=x
                    r=('i',i)
                elif a[0]=='by':
                    if d is not None: r=('i',m.call(d,a[2],n,a[3],(x,)))
                else:
                    t=m.g.tmpl(m.g.sup(a[5],'t',a[1]) if a[4] else m.g.has(m.g.k,'t',a[1]))
                    r=('i',m.call(t,a[2],n,a[3],(x,)))
            if not many: return r
            m.one(); o.append(r)
        return('l',o)
    def prop(m,v,name,pl):
        if v is None: m.err(4,pl); return None
        if v[0]=='m':
            for k,x in v[1]:
                if k==name: return x
            if name==b'keys': return m.list([('w',k) for k,x in v[1]])
            if name==b'values': return m.list([x for k,x in v[1]])
            return None
        if v[0]=='d':
            d=v[1]
            for k,x in d['es']:
                if k==name: return m.dval(x,k)
            if d['other'] is not None: return m.dval(d['other'],name)
            if name==b'keys': return m.list([('w',k) for k,x in d['es']])
            if name==b'values': return m.opened(v)
            return None
        if v[0]=='bean':
            b=m.h.values[v[1]]
            for s in range(4):
                for j,(n,so,x) in enumerate(b['props']):
                    if n==name and so==s:
                        m.looks.append((v[1],j))
                        if x==-2: m.err(5,pl); return None
                        return m.h.val(x)
            m.err(4,pl); return None
        if v[0]=='i':
            n=name.decode('latin1')
            if n in v[1].attrs: return v[1].attrs[n]
        m.err(4,pl); return None
    def fun(m,f,v,pl):
        if f in('strlen','trim'):
            if v is None: m.err(6,pl); return None
            w=m.word(v)
            if f=='strlen': return('n',len(w))
            return('w',w.strip(b' \t\n'))
        l=m.onebyone(v)
        if f=='first': return l[0] if l else None
        if f=='last': return l[-1] if l else None
        if f=='rest': return m.list(l[1:]) if len(l)>=2 else None
        if f=='trunc': return m.list(l[:-1]) if len(l)>=2 else None
        if f=='strip': return m.list([x for x in l if x is not None])
        if f=='reverse': return m.list(l[::-1])
        return('n',len(l))
    def cond(m,c):
        if c[0]=='or': return m.cond(c[1]) or m.cond(c[2])
        if c[0]=='and': return m.cond(c[1]) and m.cond(c[2])
        if c[0]=='not': return not m.cond(c[1])
        return m.true(m.ev(c[1]))
    # writing
    def raw(m,b):
        w=m.w; w.n+=1
        if not w.main: w.out.append(b); return
        if len(m.text)>=12000: raise Ends()
        m.text.append(b); m.snap.append((len(m.errors),len(m.looks),m.made))
    def margin(m):
        w=m.w
        for i in w.ind:
            for b in i: m.raw(b); w.col+=1
        while w.anchor and w.col<w.anchor[-1]: m.raw(32); w.col+=1
    def put(m,b):
        w=m.w
        if b==10: m.raw(10); w.col=0; w.bol=True; return
        if w.bol: w.bol=False; m.margin()
        m.raw(b); w.col+=1
    def wrap(m,o):
        w=m.w
        if o.get('wrap') is None: return
        if not(w.main and m.width and not w.bol and w.col>=m.width): return
        for b in o['wrap']:
            m.put(b)
            if b==10: w.bol=False; m.margin()
    def write(m,v,o):
        if m.written>=60000: raise Ends()
        m.written+=1
        if v is None:
            if o.get('null') is not None: m.write(o['null'],{})
            return
        if v[0] in 'lmd':
            prev=False
            for x in m.onebyone(v):
                some=x is not None or o.get('null') is not None
                if some and prev and o.get('separator') is not None: m.write(o['separator'],{})
                prev=prev or some
                m.write(x,o)
            return
        if v[0]=='i':
            if len(m.open)>=30: m.err(7,m.open[-1].at); return
            m.wrap(o)
            i=v[1]; save=getattr(i,'at',None)
            run=Run(i); m.open.append(run)
            m.elements(i.d['body'],run)
            m.open.pop()
            return
        if v[0]=='b': b=b'true' if v[1] else b'false'
        elif v[0]=='n': b=str(v[1]).encode()
        elif v[0]=='w': b=v[1]
        else: m.looks.append((v[1],-1)); b=m.h.values[v[1]]['word']
        f=o.get('format')
        if f: b=fmt(f,b)
        m.wrap(o)
        for c in b: m.put(c)
    def elements(m,body,run):
        mark=m.w.n; stood=False
        for it in body:
            k=it[0]
            if k=='b': run.at=it[2]; m.put(it[1])
            elif k=='nl':
                run.at=it[1]
                if not(stood and m.w.n==mark): m.put(10)
                mark=m.w.n; stood=False
            elif k=='raw':
                run.at=it[2]
                for b in it[1]: m.put(b)
            elif k=='if':
                run.at=it[1]; stood=True
                for c,t in it[2]:
                    if c is None or m.cond(c): m.elements(t,run); break
            elif k in('@call','@super'):
                run.at=it[1]; stood=True
                if k=='@call': d=m.g.has(m.g.k,'r',(it[2],it[3]))
                else: d=m.g.sup(it[4],'r',(it[2],it[3]))
                i=m.inst(d,m.open[-1])
                if it[-1]: m.w.ind.append(it[-1])
                m.write(('i',i),{})
                if it[-1]: m.w.ind.pop()
            elif k=='expr':
                run.at=it[1]; stood=True
                o={}
                for n,e,pl in it[2]:
                    v=m.ev(e)
                    if n=='format' and v is not None:
                        w=m.word(v); f=fparse(w)
                        if f is None: m.err(9,pl)
                        else: o[n]=f
                    elif n=='wrap' and v is not None: o[n]=m.word(v)
                    elif n=='anchor': o[n]=m.true(v)
                    else: o[n]=v
                v=m.ev(it[3])
                if it[4]: m.w.ind.append(it[4])
                if o.get('anchor'): m.w.anchor.append(m.w.col)
                m.write(v,o)
                if it[4]: m.w.ind.pop()
                if o.get('anchor'): m.w.anchor.pop()
class Run:
    """an INSTANCE being written"""
    def __init__(s,i): s.i=i; s.at=0
    @property
    def d(s): return s.i.d
    @property
    def attrs(s): return s.i.attrs
    @property
    def parent(s): return s.i.parent
def fparse(w):
    if w in(b'upper',b'lower',b'cap',b'xml',b'url'): return w
    if 1<=len(w)<=2 and all(48<=c<=57 for c in w): return (w[0:1]==b'0',int(w))
    return None
def fmt(f,b):
    if isinstance(f,tuple):
        z,n=f
        pad=max(0,n-len(b))
        if z:
            if b[:1]==b'-': return b'-'+b'0'*pad+b[1:]
            return b'0'*pad+b
        return b' '*pad+b
    up=lambda c:c-32 if 97<=c<=122 else c
    if f==b'upper': return bytes(map(up,b))
    if f==b'lower': return bytes(c+32 if 65<=c<=90 else c for c in b)
    if f==b'cap': return bytes([up(b[0])])+b[1:] if b else b
    if f==b'xml': return b''.join({38:b'&amp;',60:b'&lt;',62:b'&gt;',34:b'&quot;'}.get(c,bytes([c])) for c in b)
    o=b''
    for c in b:
        if chr(c).isalnum() and c<128 or c in b'-_.': o+=bytes([c])
        else: o+=b'%%%02X'%c
    return o

class House:
    def __init__(h):
        h.files=[b'']*8; h.values=[]; h.added=[]; h.w=0; h.g=None; h.gens=0; h.fault=(0,-1,-1)
        h.bytes=0; h.listed=0; h.m=None; h.state=0; h.shown=0; h.gen=None
    def val(h,n):
        if n<0: return None
        v=h.values[n]
        k=v['k']
        if k=='b': return('b',v['v'])
        if k=='n': return('n',v['v'])
        if k=='w': return('w',v['word'])
        if k=='l': return('l',[h.val(x) for x in v['v']])
        if k=='m': return('m',[(a,h.val(x)) for a,x in v['v']])
        return('bean',n)
    def load(h,k):
        try:
            g=Generation(h,k)
        except Fault as f:
            h.fault=(f.n,f.f,f.p); return None
        h.fault=(0,-1,-1); h.gen=g; h.gens+=1
        return g.count()
    def begin(h,name):
        n=name.decode('latin1')
        if h.gen is None or h.state==1: return 'ISE'
        d=h.gen.has(h.gen.k,'t',n)
        if d is None: return 'NSEE'
        h.m=Making(h,h.gen,h.gen.tmpl(d),[(a,h.val(v)) for a,v in h.added],h.w)
        h.state=1; h.shown=0; return ''
    def run(h,n):
        left=len(h.m.text)-h.shown
        if left>=n: h.shown+=n; return 0
        h.shown=len(h.m.text); h.state=3 if h.m.ended else 2
        return h.state-1
    def told(h):
        m=h.m
        if h.state in(2,3): return (len(m.errors),len(m.looks),m.made)
        if h.shown==0: return (0,0,m.first)
        return m.snap[h.shown-1]
