# independent oracle of ArrayHouse, from DOC.md
from fractions import Fraction as F
import math, re, itertools, sys
sys.setrecursionlimit(100000)
SYNTAX,VALUE,RANK,LENGTH,DOMAIN,INDEX,LIMIT,STEPS=range(1,9)
MAXN=2000000000
class Ev(Exception):
    def __init__(s,c): s.code=c
class V:
    __slots__=('sh','it','fill','_s','_d')
    def __init__(s,sh,it,fill=('n',F(0))):
        s.sh=tuple(sh); s.it=list(it); s.fill=fill; s._s=None; s._d=None
        n=1
        for e in s.sh: n*=e
        assert n==len(s.it),(s.sh,len(s.it))
    @property
    def rank(s): return len(s.sh)
    @property
    def count(s): return len(s.it)
def prod(x):
    p=1
    for e in x: p*=e
    return p
def size(v):
    if v._s is None:
        if v.count==0: v._s=1+size(v.fill[1]) if v.fill[0]=='b' else 0
        else: v._s=v.count+sum(size(i[1]) for i in v.it if i[0]=='b')
    return v._s
def depth(v):
    if v._d is None:
        if v.rank==0 and v.it[0][0]!='b': v._d=0
        else:
            its=v.it if v.count else [v.fill]
            v._d=1+max([depth(i[1]) for i in its if i[0]=='b'] or [0])
    return v._d
def check_shape(sh):
    if len(sh)>6 or any(e>1000 for e in sh) or prod(sh)>1000: raise Ev(LIMIT)
def done(v):
    check_shape(v.sh)
    if size(v)>1000 or depth(v)>8: raise Ev(LIMIT)
    return v
def N(x):
    x=F(x)
    if abs(x.numerator)>MAXN or x.denominator>MAXN: raise Ev(LIMIT)
    return ('n',x)
def scal(item): return V((),[item])
def num(x): return scal(N(x))
def box(v):
    if v.rank==0 and v.it[0][0]!='b': return v.it[0]
    return ('b',v)
def opn(i): return i[1] if i[0]=='b' else scal(i)
def fillitem(i):
    if i[0]=='n': return ('n',F(0))
    if i[0]=='s': return ('s',32)
    v=i[1]
    return ('b',V(v.sh,[fillitem(x) for x in v.it],v.fill))
def fill(v): return fillitem(v.it[0]) if v.count else v.fill
def alike(a,b):
    if a[0]!=b[0]: return False
    return match(a[1],b[1]) if a[0]=='b' else a[1]==b[1]
def match(v,w):
    return v.sh==w.sh and all(alike(a,b) for a,b in zip(v.it,w.it)) and (v.count>0 or alike(v.fill,w.fill))
def cmpi(a,b):
    k='nsb'
    if a[0]!=b[0]: return k.index(a[0])-k.index(b[0])
    if a[0]!='b': return (a[1]>b[1])-(a[1]<b[1])
    v,w=a[1],b[1]
    if v.rank!=w.rank: return v.rank-w.rank
    for x,y in zip(v.sh,w.sh):
        if x!=y: return x-y
    for x,y in (zip(v.it,w.it) if v.count else [(v.fill,w.fill)]):
        c=cmpi(x,y)
        if c: return c
    return 0
def isw(i,lo=-MAXN,hi=MAXN): return i[0]=='n' and i[1].denominator==1 and lo<=i[1]<=hi
def whs(v,lo=-MAXN,hi=MAXN):
    if not all(isw(i,lo,hi) for i in v.it): raise Ev(DOMAIN)
    return [int(i[1]) for i in v.it]
def vec(v):
    if v.rank>1: raise Ev(RANK)
    return v
def idx(sh): return itertools.product(*[range(e) for e in sh])
def off(sh,p):
    o=0
    for e,x in zip(sh,p): o=o*e+x
    return o
def VEC(items,f=('n',F(0))): return V((len(items),),items,f)
def withfill(sh,items,f):
    return V(sh,items,f)
# ---------- tokens
WORDS="floor ceil not min max and or gcd lcm rho tally depth first enc mix split enl rev rot tr take drop rep expand uniq up down iota where mem find pick match without union inter part penc enco deco fmt exe same key rank pow left right self".split()
FW=WORDS[:43]
SIGNS="+ - * % ^ | ! ? , = /= < <= > >=".split()
class Tok:
    def __init__(s,t,x,a,b): s.t=t; s.x=x; s.a=a; s.b=b; s.m=None
def tokens(bs):
    """bs: bytes. returns list or raises fault place"""
    class Fault(Exception): pass
    toks=[]; i=0; n=len(bs); stack=[] # stack of [tok index, colonseen]
    txt=bs.decode('latin1')
    while i<n:
        c=txt[i]
        if c==' ': i+=1; continue
        if c=='#':
            while i<n and txt[i]!='\n': i+=1
            continue
        st=i
        if c in '0123456789_':
            m=re.compile(r'_?([0-9]+)(?:r([0-9]+))?').match(txt,i)
            if not m: return None,st
            if len(m.group(1))>10 or (m.group(2) and len(m.group(2))>10): return None,st
            a=int(m.group(1)); b=int(m.group(2)) if m.group(2) else 1
            if a>MAXN or b>MAXN or b==0: return None,st
            x=F(a,b)
            if c=='_': x=-x
            toks.append(Tok('num',x,st,m.end())); i=m.end(); continue
        if 'a'<=c<='z':
            m=re.compile(r'[a-z0-9]+').match(txt,i); w=m.group(0)
            if len(w)>8: return None,st
            if w in FW: toks.append(Tok('fn',w,st,m.end()))
            elif w in ('key','rank','pow'): toks.append(Tok('op',w,st,m.end()))
            elif w in ('left','right','self'): toks.append(Tok(w,w,st,m.end()))
            else: toks.append(Tok('name',w,st,m.end()))
            i=m.end(); continue
        if c=="'":
            j=i+1; out=[]
            while True:
                if j>=n or not (32<=bs[j]<=126): return None,st
                if txt[j]=="'":
                    if j+1<n and txt[j+1]=="'": out.append(39); j+=2; continue
                    break
                out.append(bs[j]); j+=1
            toks.append(Tok('str',bytes(out),st,j+1)); i=j+1; continue
        two=txt[i:i+2]
        if two in ('/=','<=','>='): toks.append(Tok('fn',two,st,i+2)); i+=2; continue
        if two==':=': toks.append(Tok(':=',two,st,i+2)); i+=2; continue
        if two=='::' or c==':':
            k=two if two=='::' else ':'
            if not stack or toks[stack[-1][0]].t!='{' or stack[-1][1]: return None,st
            stack[-1][1]=True
            toks.append(Tok(k,k,st,i+len(k))); i+=len(k); continue
        if c in '+-*%^|!?,=<>': toks.append(Tok('fn',c,st,i+1)); i+=1; continue
        if c in '/\\"~@.': toks.append(Tok('op',c,st,i+1)); i+=1; continue
        if c in '([{':
            toks.append(Tok(c,c,st,i+1)); stack.append([len(toks)-1,False]); i+=1; continue
        if c in ')]}':
            if not stack or toks[stack[-1][0]].t!={')':'(',']':'[','}':'{'}[c]: return None,st
            o=stack.pop()[0]; t=Tok(c,c,st,i+1); t.m=o; toks[o].m=len(toks); toks.append(t); i+=1; continue
        if c==';' or c=='\n':
            if stack:
                k=toks[stack[-1][0]].t
                if k=='(' or (k=='[' and c=='\n'): return None,st
                stack[-1][1]=False if k=='{' else stack[-1][1]
            toks.append(Tok(';' if c==';' else 'nl',c,st,i+1)); i+=1; continue
        return None,st
    if stack: return None,toks[stack[-1][0]].a
    return toks,-1
def split_at(tk,lo,hi,kinds):
    """split [lo,hi) at direct tokens of kinds: list of (a,b)"""
    res=[]; st=lo; i=lo
    while i<hi:
        t=tk[i]
        if t.t in '([{' and t.t!='': i=t.m
        elif t.t in kinds: res.append((st,i)); st=i+1
        i+=1
    res.append((st,hi)); return res
# ---------- functions
class Prim:
    def __init__(s,c,ax=None): s.c=c; s.ax=ax
class Brace:
    def __init__(s,tk,lo,hi,place): s.tk=tk; s.lo=lo; s.hi=hi; s.place=place
class Made:
    def __init__(s,op,f=None,x=None): s.op=op; s.f=f; s.x=x
class Named:
    def __init__(s,tk,lo,hi,place): s.tk=tk; s.lo=lo; s.hi=hi; s.place=place
def isfun(x): return isinstance(x,(Prim,Brace,Made,Named))
class Place:
    def __init__(s,parent,cap): s.parent=parent; s.names={}; s.cap=cap; s.left=s.right=s.self=None; s.guards=[]
MON=set('+ - * % | ! floor ceil not ?'.split())
MONADIC=MON|set(', rho tally depth first enc mix split enl rev tr uniq up down iota where fmt exe same'.split())
DY=set('+ - * % ^ | ! min max and or gcd lcm = /= < <= > >='.split())
DYADIC=DY|set('? , rho rot tr take drop rep expand iota mem find pick match without union inter part penc enco deco same'.split())
IDENT={0:'+ - | or gcd < > /='.split(),1:'* % ^ ! and lcm <= >= ='.split(),MAXN:['min'],-MAXN:['max']}
class House:
    def __init__(s):
        s.origin=1; s.link=1; s.house=Place(None,60); s.spent=0; s.open=0; s.tape=b''; s.out=b''; s.evat=-1; s.path=[]
    # --- steps
    def spend(s,n):
        if s.spent+n>40000: raise Ev(STEPS)
        s.spent+=n
    def enter(s):
        if s.open>=40: raise Ev(LIMIT)
        s.open+=1
    def leave(s): s.open-=1
    def roll(s,n):
        s.link=16807*s.link%2147483647
        return s.link%n
    # --- run
    def run(s,bs):
        s.out=b''; s.path=[]; s.spent=0; s.evat=-1; s.open=0
        tk,f=tokens(bs)
        if tk is None: return -10-f
        s.bs=bs
        for k,(a,b) in enumerate(split_at(tk,0,len(tk),(';','nl'))):
            if a==b: continue
            try:
                s.spend(1)
                r,ended=s.phrase(Src(tk,bs),a,b,s.house)
                if isfun(r): raise Ev(SYNTAX)
                if r is not None and not ended:
                    s.out=(s.out+s.fmt(r)+b'\n')[:8000]
            except Ev as e:
                s.evat=k
                return e.code
        return 0
    def fmt(s,v):
        def it(i):
            if i[0]=='s': return bytes([i[1]])
            if i[0]=='b': return b'('+s.fmt(i[1])+b')'
            x=i[1]
            t=('_' if x<0 else '')+str(abs(x.numerator))+('r%d'%x.denominator if x.denominator!=1 else '')
            return t.encode()
        if v.rank==0: return it(v.it[0])
        body=(b'' if all(i[0]=='s' for i in v.it) else b' ').join(it(i) for i in v.it)
        if v.rank==1: return body
        return b'['+b' '.join(b'%d'%e for e in v.sh)+b']'+body
    # --- names
    def find(s,name,place):
        p=place
        while p is not None:
            if name in p.names: return p
            p=p.parent
        return None
    def setname(s,place,name,m):
        if name not in place.names and len(place.names)>=place.cap: raise Ev(LIMIT)
        place.names[name]=m
    # --- phrases.  R: reader state object per phrase
    def worth(s,src,lo,hi,place):
        r,_=s.phrase(src,lo,hi,place)
        if r is None: raise Ev(VALUE)
        if isfun(r): raise Ev(SYNTAX)
        return r
    def phrase(s,src,lo,hi,place,given=None):
        if lo==hi: return None,False
        ph=Phrase(s,src,lo,hi,place)
        return ph.go(given)
    # --- application
    def apply(s,f,a,w,place):
        assert not isinstance(f,Named)
        if isinstance(f,Prim):
            if f.c==',' and f.ax is not None and a is None: raise Ev(SYNTAX)
            if f.c not in (MONADIC if a is None else DYADIC): raise Ev(SYNTAX)
        if isinstance(f,Made):
            if a is None and f.op in '@.': raise Ev(SYNTAX)
            if a is not None and f.op=='\\': raise Ev(SYNTAX)
        s.spend(1+size(w)+(size(a) if a is not None else 0))
        if isinstance(f,Prim):
            r=done(s.prim(f,a,w,place))
        elif isinstance(f,Brace):
            s.enter(); r=s.call(f,a,w); s.leave()
        else:
            s.enter(); r=s.made(f,a,w,place); s.leave()
        s.spend(size(r))
        return r
    def call(s,f,a,w):
        pl=Place(f.place,20); pl.left=a; pl.right=w; pl.self=f
        op=s.open
        try:
            return s.body(f,pl)
        except Ev as e:
            ev=e
        while True:
            if ev.code==STEPS: raise ev
            while pl.guards:
                g=pl.guards.pop()
                if ev.code in g[0] or 0 in g[0]: break
            else: raise ev
            s.open=op
            try:
                return s.worth(f.tk,g[1],g[2],pl)
            except Ev as e: ev=e
    def body(s,f,pl):
        tk=f.tk.tk
        for a,b in split_at(tk,f.lo,f.hi,(';','nl')):
            if a==b: continue
            s.spend(1)
            parts=split_at(tk,a,b,(':','::'))
            if len(parts)==2:
                (a1,b1),(a2,b2)=parts
                c=s.worth(f.tk,a1,b1,pl)
                if tk[b1].t==':':
                    if c.count!=1: raise Ev(LENGTH)
                    if not isw(c.it[0],0,1): raise Ev(DOMAIN)
                    if c.it[0][1]==1: return s.worth(f.tk,a2,b2,pl)
                else:
                    ns=whs(c,0,7)
                    pl.guards.append((set(ns),a2,b2))
                continue
            r,ended=s.phrase(f.tk,a,b,pl)
            if isfun(r): raise Ev(SYNTAX)
            if r is not None and not ended: return r
        raise Ev(VALUE)
    # --- scalar functions
    def smon(s,c,w):
        out=[]; sz=0
        for i in w.it:
            if i[0]=='b': r=('b',s.smon(c,i[1])); sz+=size(r[1])
            elif i[0]=='s': raise Ev(DOMAIN)
            else: r=N(s.sm1(c,i[1]))
            out.append(r); sz+=1
            if sz>1000: raise Ev(LIMIT)
        return done(V(w.sh,out))
    def sm1(s,c,x):
        if c=='+': return x
        if c=='-': return -x
        if c=='*': return (x>0)-(x<0)
        if c=='%':
            if x==0: raise Ev(DOMAIN)
            return 1/x
        if c=='|': return abs(x)
        if c=='!':
            if x.denominator!=1 or x<0: raise Ev(DOMAIN)
            if x>20: raise Ev(LIMIT)
            return math.factorial(int(x))
        if c=='floor': return math.floor(x)
        if c=='ceil': return math.ceil(x)
        if c=='not':
            if x not in (0,1): raise Ev(DOMAIN)
            return 1-x
        if c=='?':
            if x.denominator!=1 or x<1: raise Ev(DOMAIN)
            return s.origin+s.roll(int(x))
        assert 0,c
    def pairup(s,a,w):
        """list of (ia,iw), result shape"""
        if a.rank==0 and w.rank==0: return [(0,0)],()
        if a.rank==0: return [(0,k) for k in range(w.count)],w.sh
        if w.rank==0: return [(k,0) for k in range(a.count)],a.sh
        if a.count==1 and w.count==1:
            return [(0,0)],(a.sh if w.rank<=a.rank else w.sh)
        if a.count==1: return [(0,k) for k in range(w.count)],w.sh
        if w.count==1: return [(k,0) for k in range(a.count)],a.sh
        if a.rank!=w.rank: raise Ev(RANK)
        if a.sh!=w.sh: raise Ev(LENGTH)
        return [(k,k) for k in range(a.count)],a.sh
    def sdy(s,c,a,w):
        prs,sh=s.pairup(a,w)
        out=[]; sz=0
        for i,j in prs:
            x,y=a.it[i],w.it[j]
            if x[0]=='b' or y[0]=='b':
                r=box(s.sdy(c,opn(x),opn(y)))
            elif c in ('=','/='):
                r=N(int(alike(x,y)==(c=='=')))
            elif x[0]=='s' or y[0]=='s': raise Ev(DOMAIN)
            else: r=N(s.sd1(c,x[1],y[1]))
            out.append(r); sz+=1+(size(r[1]) if r[0]=='b' else 0)
            if sz>1000: raise Ev(LIMIT)
        return done(V(sh,out))
    def sd1(s,c,x,y):
        if c=='+': return x+y
        if c=='-': return x-y
        if c=='*': return x*y
        if c=='%':
            if y==0:
                if x==0: return 1
                raise Ev(DOMAIN)
            return x/y
        if c=='^':
            if y.denominator!=1: raise Ev(DOMAIN)
            if y==0: return 1
            if x==0:
                if y<0: raise Ev(DOMAIN)
                return 0
            if x in (1,-1): return x**(int(y)%2) if x==-1 else 1
            if abs(y)>40: raise Ev(LIMIT)
            return x**int(y)
        if c=='|': return y if x==0 else y-x*math.floor(y/x)
        if c=='!':
            if x.denominator!=1 or y.denominator!=1 or x<0 or y<0: raise Ev(DOMAIN)
            x=int(x);y=int(y)
            if x>y: return 0
            k=min(x,y-x)
            if k>40: raise Ev(LIMIT)
            return math.comb(y,k)
        if c=='min': return min(x,y)
        if c=='max': return max(x,y)
        if c=='<': return int(x<y)
        if c=='<=': return int(x<=y)
        if c=='>': return int(x>y)
        if c=='>=': return int(x>=y)
        if c in('and','or'):
            if x not in (0,1) or y not in (0,1): raise Ev(DOMAIN)
            return int(x and y) if c=='and' else int(x or y)
        if x.denominator!=1 or y.denominator!=1: raise Ev(DOMAIN)
        x=int(x);y=int(y)
        if c=='gcd': return math.gcd(x,y)
        if c=='lcm': return math.lcm(x,y)
        assert 0,c
    # --- axis
    def axis(s,ax,rank):
        if ax is None: return rank-1
        if ax.count!=1: raise Ev(LENGTH)
        k=whs(ax)[0]-s.origin
        if not 0<=k<rank: raise Ev(INDEX)
        return k
    def prim(s,f,a,w,place):
        c=f.c
        if c=='same': return w
        if a is None:
            if c in MON: return s.smon(c,w)
            return getattr(s,'m_'+{',':'ravel'}.get(c,c))(f,w,place)
        if c in DY: return s.sdy(c,a,w)
        return getattr(s,'d_'+{',':'join','?':'deal'}.get(c,c))(f,a,w)
    def m_rho(s,f,w,p): return VEC([N(e) for e in w.sh])
    def m_ravel(s,f,w,p): return VEC(w.it,fill(w))
    def m_tally(s,f,w,p): return num(w.sh[0] if w.rank else 1)
    def m_depth(s,f,w,p): return num(depth(w))
    def m_first(s,f,w,p): return opn(w.it[0] if w.count else w.fill)
    def m_enc(s,f,w,p): return scal(box(w))
    def m_mix(s,f,w,p=None):
        vs=[opn(i) for i in (w.it or [w.fill])]
        R=max(v.rank for v in vs)
        shs=[(1,)*(R-v.rank)+v.sh for v in vs]
        E=tuple(max(x) for x in zip(*shs)) if R else ()
        sh=w.sh+E
        check_shape(sh)
        fl=fill(vs[0])
        out=[]
        if prod(sh):
            for v,vsh in zip(vs,shs):
                vf=fill(v)
                for q in idx(E):
                    out.append(v.it[off(vsh,q)] if all(x<y for x,y in zip(q,vsh)) else vf)
        return V(sh,out,fl)
    def m_split(s,f,w,p):
        if w.rank==0: return w
        sh=w.sh[:-1]; e=w.sh[-1]
        check_shape(sh)
        wf=fill(w)
        n=prod(sh)
        cells=[done(VEC(w.it[k*e:k*e+e],wf)) for k in range(n)]
        if n==0:
            fv=done(VEC([wf]*e,wf))
            return V(sh,[],('b',fv))
        return V(sh,[('b',v) for v in cells])
    def m_enl(s,f,w,p):
        def go(v):
            for i in v.it:
                if i[0]=='b': yield from go(i[1])
                else: yield i
        return VEC(list(go(w)))
    def m_rev(s,f,w,p):
        k=s.axis(f.ax,w.rank)
        if w.rank==0: return w
        out=[]
        for q in idx(w.sh):
            q=list(q); q[k]=w.sh[k]-1-q[k]; out.append(w.it[off(w.sh,q)])
        return V(w.sh,out,fill(w))
    def m_tr(s,f,w,p):
        sh=w.sh[::-1]
        return V(sh,[w.it[off(w.sh,q[::-1])] for q in idx(sh)] if w.count else [],fill(w))
    def m_uniq(s,f,w,p):
        vec(w); out=[]
        for i in w.it:
            if not any(alike(i,j) for j in out): out.append(i)
        return VEC(out,fill(w))
    def grade(s,w,sign):
        from functools import cmp_to_key
        if w.rank==0: raise Ev(RANK)
        n=w.sh[0]; m=prod(w.sh[1:]) if w.count else 0
        def c(i,j):
            for k in range(m):
                x=cmpi(w.it[i*m+k],w.it[j*m+k])
                if x: return x*sign
            return 0
        return VEC([N(i+s.origin) for i in sorted(range(n),key=cmp_to_key(c))])
    def m_up(s,f,w,p): return s.grade(w,1)
    def m_down(s,f,w,p): return s.grade(w,-1)
    def zeros(s,n): return ('b',VEC([N(0)]*n))
    def m_iota(s,f,w,p):
        vec(w); x=whs(w,0)
        if len(x)==1:
            if x[0]>1000: raise Ev(LIMIT)
            return VEC([N(s.origin+i) for i in range(x[0])])
        check_shape(x)
        return V(x,[('b',VEC([N(e+s.origin) for e in q])) for q in idx(x)] if prod(x) else [],s.zeros(len(x)))
    def m_where(s,f,w,p):
        if w.rank==0: raise Ev(RANK)
        x=whs(w,0)
        if sum(x)>1000: raise Ev(LIMIT)
        out=[]
        if w.count:
            for q,k in zip(idx(w.sh),x):
                out+=[N(q[0]+s.origin) if w.rank==1 else ('b',VEC([N(e+s.origin) for e in q]))]*k
        return VEC(out,N(0) if w.rank==1 else s.zeros(w.rank))
    def m_fmt(s,f,w,p):
        t=s.fmt(w)
        if len(t)>1000: raise Ev(LIMIT)
        return VEC([('s',b) for b in t],('s',32))
    def m_exe(s,f,w,place):
        s.enter()
        vec(w)
        if any(i[0]!='s' for i in w.it): raise Ev(DOMAIN)
        bs=bytes(i[1] for i in w.it)
        tk,ft=tokens(bs)
        if tk is None: raise Ev(SYNTAX)
        r=None
        for a,b in split_at(tk,0,len(tk),(';','nl')):
            if a==b: continue
            s.spend(1)
            r,_=s.phrase(Src(tk,bs),a,b,place)
            if isfun(r): raise Ev(SYNTAX)
        if r is None: raise Ev(VALUE)
        s.leave()
        return r
    # --- dyadic
    def d_rho(s,f,a,w):
        vec(a); x=whs(a,0); check_shape(x)
        n=prod(x)
        src=w.it or [w.fill]
        return V(x,[src[i%len(src)] for i in range(n)],fill(w))
    def d_join(s,f,a,w):
        R=max(a.rank,w.rank)
        k=max(R-1,0)
        if f.ax is not None:
            ax=f.ax
            if ax.count!=1: raise Ev(LENGTH)
            if ax.it[0][0]!='n': raise Ev(DOMAIN)
            x=ax.it[0][1]
            if x.denominator!=1: return s.laminate(x,a,w)
            k=int(x)-s.origin
            if not 0<=k<max(R,1): raise Ev(INDEX)
        if a.rank==0 and w.rank==0: return VEC([a.it[0],w.it[0]])
        def fit(v,o):
            if v.rank==0: return None
            if v.rank==R: return v.sh
            if v.rank==R-1: return v.sh[:k]+(1,)+v.sh[k:]
            raise Ev(RANK)
        sa,sw=fit(a,w),fit(w,a)
        if sa is None: sa=sw[:k]+(1,)+sw[k+1:]; ita=[a.it[0]]*prod(sa)
        else: ita=a.it
        if sw is None: sw=sa[:k]+(1,)+sa[k+1:]; itw=[w.it[0]]*prod(sw)
        else: itw=w.it
        if sa[:k]+sa[k+1:]!=sw[:k]+sw[k+1:]: raise Ev(LENGTH)
        sh=sa[:k]+(sa[k]+sw[k],)+sa[k+1:]
        check_shape(sh)
        out=[]
        for q in (idx(sh) if prod(sh) else []):
            if q[k]<sa[k]: out.append(ita[off(sa,q)])
            else:
                q=list(q); q[k]-=sa[k]; out.append(itw[off(sw,q)])
        return V(sh,out,fill(a))
    def laminate(s,x,a,w):
        R=max(a.rank,w.rank)
        if not (s.origin-1<x<s.origin+R): raise Ev(INDEX)
        pos=sum(1 for k in range(R) if s.origin+k<x)
        if a.rank and w.rank:
            if a.rank!=w.rank: raise Ev(RANK)
            if a.sh!=w.sh: raise Ev(LENGTH)
        b=a.sh if a.rank else w.sh
        sh=b[:pos]+(2,)+b[pos:]
        check_shape(sh)
        out=[]
        for q in (idx(sh) if prod(sh) else []):
            v=(a,w)[q[pos]]
            out.append(v.it[off(v.sh,q[:pos]+q[pos+1:])] if v.rank else v.it[0])
        return V(sh,out,fill(a))
    def d_rot(s,f,a,w):
        k=s.axis(f.ax,w.rank)
        if w.rank==0:
            if a.rank: raise Ev(RANK)
            whs(a); return w
        want=w.sh[:k]+w.sh[k+1:]
        if a.rank:
            if a.rank!=w.rank-1: raise Ev(RANK)
            if a.sh!=want: raise Ev(LENGTH)
        x=whs(a)
        out=[]
        for q in (idx(w.sh) if w.count else []):
            q=list(q); rest=q[:k]+q[k+1:]
            n=x[off(want,rest)] if a.rank else x[0]
            q[k]=(q[k]+n)%w.sh[k]
            out.append(w.it[off(w.sh,q)])
        return V(w.sh,out,fill(w))
    def d_tr(s,f,a,w):
        vec(a)
        if a.count!=w.rank: raise Ev(LENGTH)
        x=[e-s.origin for e in whs(a)]
        if any(not 0<=e<w.rank for e in x) or (x and set(x)!=set(range(max(x)+1))): raise Ev(INDEX)
        R=max(x)+1 if x else 0
        sh=tuple(min(w.sh[k] for k in range(w.rank) if x[k]==j) for j in range(R))
        return V(sh,[w.it[off(w.sh,[q[e] for e in x])] for q in idx(sh)] if prod(sh) else [],fill(w))
    def d_take(s,f,a,w):
        vec(a)
        if w.rank and a.count>w.rank: raise Ev(LENGTH)
        x=whs(a)
        wsh=w.sh or (1,)*len(x)
        sh=[abs(e) for e in x]+list(wsh[len(x):])
        check_shape(sh)
        out=[]; wf=fill(w)
        for q in (idx(sh) if prod(sh) else []):
            q=list(q)
            for k,e in enumerate(x):
                if e<0: q[k]+=wsh[k]+e
            out.append(w.it[off(wsh,q)] if all(0<=c<d for c,d in zip(q,wsh)) else wf)
        return V(sh,out,wf)
    def d_drop(s,f,a,w):
        vec(a)
        if w.rank and a.count>w.rank: raise Ev(LENGTH)
        x=whs(a)
        wsh=w.sh or (1,)*len(x)
        if len(wsh)>6: raise Ev(LIMIT)
        sh=[max(0,e-abs(d)) for e,d in zip(wsh,x)]+list(wsh[len(x):])
        out=[]
        for q in (idx(sh) if prod(sh) else []):
            q=list(q)
            for k,e in enumerate(x):
                if e>0: q[k]+=e
            out.append(w.it[off(wsh,q)])
        return V(sh,out,fill(w))
    def onaxis(s,w,wsh,k,srcs):
        """srcs: list of places or None for FILL"""
        sh=wsh[:k]+(len(srcs),)+wsh[k+1:]
        check_shape(sh)
        out=[]; wf=fill(w)
        for q in (idx(sh) if prod(sh) else []):
            q=list(q); z=srcs[q[k]]
            if z is None: out.append(wf)
            else: q[k]=z; out.append(w.it[off(wsh,q)])
        return V(sh,out,wf)
    def d_rep(s,f,a,w):
        k=max(0,s.axis(f.ax,w.rank))
        vec(a)
        wsh=w.sh or (1,)
        e=wsh[k]
        if not (a.count==1 or a.count==e or e==1): raise Ev(LENGTH)
        x=whs(a)
        if a.count==1: x=x*e; pl=range(e)
        elif a.count==e: pl=range(e)
        else: pl=[0]*a.count
        if sum(abs(n) for n in x)>1000: raise Ev(LIMIT)
        srcs=[]
        for n,z in zip(x,pl): srcs+=[z if n>=0 else None]*abs(n)
        return s.onaxis(w,wsh,k,srcs)
    def d_expand(s,f,a,w):
        k=max(0,s.axis(f.ax,w.rank))
        vec(a)
        wsh=w.sh or (1,)
        e=wsh[k]
        x=whs(a,0,1)
        if sum(x)!=e and e!=1: raise Ev(LENGTH)
        srcs=[]; n=0
        for b in x:
            if b: srcs.append(0 if e==1 else n); n+=1
            else: srcs.append(None)
        return s.onaxis(w,wsh,k,srcs)
    def d_without(s,f,a,w):
        vec(a);vec(w)
        return VEC([i for i in a.it if not any(alike(i,j) for j in w.it)],fill(a))
    def d_inter(s,f,a,w):
        vec(a);vec(w)
        return VEC([i for i in a.it if any(alike(i,j) for j in w.it)],fill(a))
    def d_union(s,f,a,w):
        vec(a);vec(w)
        return VEC(a.it+[i for i in w.it if not any(alike(i,j) for j in a.it)],fill(a))
    def d_iota(s,f,a,w):
        if a.rank!=1: raise Ev(RANK)
        return V(w.sh,[N(s.origin+next((k for k,j in enumerate(a.it) if alike(i,j)),a.count)) for i in w.it])
    def d_mem(s,f,a,w):
        return V(a.sh,[N(int(any(alike(i,j) for j in w.it))) for i in a.it])
    def d_find(s,f,a,w):
        if a.rank>w.rank: return V(w.sh,[N(0)]*w.count)
        ash=(1,)*(w.rank-a.rank)+a.sh
        out=[]
        for q in (idx(w.sh) if w.count else []):
            ok=all(x+y<=z for x,y,z in zip(q,ash,w.sh))
            if ok and a.count:
                for r in idx(ash):
                    if not alike(a.it[off(ash,r)],w.it[off(w.sh,[x+y for x,y in zip(q,r)])]): ok=False;break
            out.append(N(int(ok)))
        return V(w.sh,out)
    def d_pick(s,f,a,w):
        vec(a)
        here=w
        for i in a.it:
            p=opn(i)
            vec(p)
            if p.count!=here.rank: raise Ev(RANK)
            x=[e-s.origin for e in whs(p)]
            if any(not 0<=e<m for e,m in zip(x,here.sh)): raise Ev(INDEX)
            here=opn(here.it[off(here.sh,x)])
        return here
    def d_match(s,f,a,w): return num(int(match(a,w)))
    def parts(s,groups,w):
        wf=fill(w)
        return VEC([('b',done(VEC(g,wf))) for g in groups],('b',VEC([],wf)))
    def d_part(s,f,a,w):
        vec(a);vec(w)
        if a.count!=w.count: raise Ev(LENGTH)
        x=whs(a,0); g=[]; prev=0
        for n,i in zip(x,w.it):
            if n>prev: g.append([])
            if n: g[-1].append(i)
            prev=n
        return s.parts(g,w)
    def d_penc(s,f,a,w):
        vec(a);vec(w)
        if a.count!=w.count: raise Ev(LENGTH)
        x=whs(a,0,1); g=[]
        for n,i in zip(x,w.it):
            if n: g.append([])
            if g: g[-1].append(i)
        return s.parts(g,w)
    def d_enco(s,f,a,w):
        vec(a)
        if any(i[0]!='n' for i in a.it+w.it): raise Ev(DOMAIN)
        sh=a.sh+w.sh; check_shape(sh)
        cols=[]
        for i in w.it:
            v=i[1]; col=[]
            for j in range(a.count-1,-1,-1):
                x=a.it[j][1]
                col.append(N(s.sd1('|',x,v)))
                if j:
                    v=F(math.floor(v/x)) if x else F(0)
                    N(v)
            cols.append(col[::-1])
        return V(sh,[cols[j][k] for k in range(a.count) for j in range(w.count)],fill(w))
    def d_deco(s,f,a,w):
        vec(a);vec(w)
        if a.count!=1 and a.count!=w.count: raise Ev(LENGTH)
        if any(i[0]!='n' for i in a.it+w.it): raise Ev(DOMAIN)
        v=F(0)
        for k,i in enumerate(w.it):
            v=N(v*a.it[0 if a.count==1 else k][1])[1]
            v=N(v+i[1])[1]
        return num(v)
    def d_deal(s,f,a,w):
        if a.count!=1 or w.count!=1: raise Ev(LENGTH)
        x=whs(a,0)[0]; y=whs(w,0)[0]
        if x>y: raise Ev(DOMAIN)
        if y>1000: raise Ev(LIMIT)
        row=list(range(s.origin,s.origin+y))
        for i in range(x):
            j=i+s.roll(y-i)
            row[i],row[j]=row[j],row[i]
        return VEC([N(e) for e in row[:x]])
    # --- operators
    def ident(s,f):
        if isinstance(f,Prim) and f.ax is None:
            for k,v in IDENT.items():
                if f.c in v: return num(k)
        return None
    def fold(s,f,vals,place):
        if not vals: return s.ident(f)
        acc=vals[-1]
        for v in vals[-2::-1]: acc=s.apply(f,v,acc,place)
        return acc
    def made(s,m,a,w,place):
        f=m.f
        ap=lambda f,a,w: s.apply(f,a,w,place)
        op=m.op
        if op=='~': return ap(f,w,w) if a is None else ap(f,w,a)
        if op=='pow':
            k=m.x
            if k.count!=1: raise Ev(LENGTH)
            n=whs(k,0)[0]
            while n>0: w=ap(f,a,w); n-=1
            return w
        if op=='/' or op=='\\':
            k=s.axis(m.x,w.rank)
            if w.rank==0:
                if a is not None: raise Ev(RANK)
                return w
            e=w.sh[k]
            if a is not None:
                if a.count!=1: raise Ev(LENGTH)
                n=whs(a)[0]
                if abs(n)>e+1: raise Ev(LENGTH)
                sh=w.sh[:k]+(e+1-abs(n),)+w.sh[k+1:]
                runs=lambda p:(list(range(p,p+n)) if n>=0 else list(range(p-n-1,p-1,-1)))
                keep=True
            elif op=='\\':
                sh=w.sh; runs=lambda p:list(range(p+1)); keep=True
            else:
                sh=w.sh[:k]+w.sh[k+1:]; runs=lambda p:list(range(e)); keep=False
            check_shape(sh)
            ixs=list(idx(sh)) if prod(sh) else []
            if ixs and not runs(0) and s.ident(f) is None: raise Ev(DOMAIN)
            s.spend(len(ixs))
            out=[]
            for q in ixs:
                if keep: p=q[k]; pre,post=q[:k],q[k+1:]
                else: p=0; pre,post=q[:k],q[k:]
                vals=[opn(w.it[off(w.sh,pre+(z,)+post)]) for z in runs(p)]
                out.append(box(s.fold(f,vals,place)))
            return done(V(sh,out,fill(w)))
        if op=='"':
            if a is None:
                s.spend(w.count)
                return done(V(w.sh,[box(ap(f,None,opn(i))) for i in w.it]))
            prs,sh=s.pairup(a,w)
            s.spend(len(prs))
            return done(V(sh,[box(ap(f,opn(a.it[i]),opn(w.it[j]))) for i,j in prs]))
        if op=='@':
            sh=a.sh+w.sh; check_shape(sh)
            s.spend(prod(sh))
            return done(V(sh,[box(ap(f,opn(i),opn(j))) for i in a.it for j in w.it]))
        if op=='.':
            g=m.x
            if a.rank==0 and w.rank==0: n=1
            elif a.rank==0: n=w.sh[0]
            elif w.rank==0: n=a.sh[-1]
            elif a.sh[-1]==w.sh[0]: n=w.sh[0]
            elif a.sh[-1]==1: n=w.sh[0]
            elif w.sh[0]==1: n=a.sh[-1]
            else: raise Ev(LENGTH)
            sh=a.sh[:-1]+w.sh[1:]; check_shape(sh)
            if prod(sh) and n==0 and s.ident(f) is None: raise Ev(DOMAIN)
            s.spend(prod(sh))
            out=[]
            na=max(0,a.rank-1)
            for q in (idx(sh) if prod(sh) else []):
                vals=[]
                for k in range(n):
                    x=a.it[0] if a.rank==0 else a.it[off(a.sh,q[:na]+((k if a.sh[-1]!=1 else 0),))]
                    y=w.it[0] if w.rank==0 else w.it[off(w.sh,((k if w.sh[0]!=1 else 0),)+q[na:])]
                    vals.append(ap(g,opn(x),opn(y)))
                out.append(box(s.fold(f,vals,place)))
            return done(V(sh,out))
        if op=='key':
            vec(w)
            if a is not None: vec(a)
            keys=w if a is None else a
            if a is not None and a.count!=w.count: raise Ev(LENGTH)
            us=[]; 
            for k,i in enumerate(keys.it):
                for u in us:
                    if alike(u[0],i): u[1].append(k); break
                else: us.append((i,[k]))
            s.spend(len(us))
            if not us: return VEC([])
            out=[]
            for u,ks in us:
                arg=VEC([N(k+s.origin) for k in ks]) if a is None else VEC([w.it[k] for k in ks])
                out.append(box(ap(f,opn(u),arg)))
            return done(s.m_mix(None,VEC(out)))
        if op=='rank':
            k=m.x
            if not (k.count==1 or (a is not None and k.count==2)): raise Ev(LENGTH)
            ks=whs(k)
            def fr(v,n):
                t=min(n,v.rank) if n>=0 else max(0,v.rank+n)
                return v.rank-t
            def cells(v,n):
                sh=v.sh[:n]; c=v.sh[n:]; m2=prod(c)
                return sh,lambda i: V(c,v.it[i*m2:i*m2+m2],fill(v))
            fw=fr(w,ks[-1]); wsh,wc=cells(w,fw)
            if a is None: sh=wsh
            else:
                fa=fr(a,ks[0]); ash,ac=cells(a,fa)
                if fa and fw:
                    if fa!=fw: raise Ev(RANK)
                    if ash!=wsh: raise Ev(LENGTH)
                sh=ash if fa else wsh
            check_shape(sh)
            n=prod(sh); s.spend(n)
            if n==0: return V(sh,[])
            out=[]
            for i in range(n):
                if a is None: out.append(box(ap(f,None,wc(i))))
                else: out.append(box(ap(f,ac(i if fa else 0),wc(i if fw else 0))))
            return done(s.m_mix(None,V(sh,out)))
        assert 0,op
class Src:
    def __init__(s,tk,bs): s.tk=tk; s.bs=bs
AXT=(',','rev','rot','rep','expand','/','\\')
class Rank:  # operator piece waiting for a function
    pass
ASSIGN=object()
class Phrase:
    def __init__(s,H,src,lo,hi,place):
        s.H=H; s.src=src; s.tk=src.tk; s.lo=lo; s.hi=hi; s.place=place; s.pos=hi
    def kind(s,k=1):
        return s.tk[s.pos-k].t if s.pos-k>=s.lo else None
    def go(s,given):
        H=s.H
        if given is not None:
            s.pos-=1
            p=s.rankahead(given)
        else:
            p=s.meet(False)
        if not isinstance(p,V):
            return s.fun_at_end(p)
        value,nxt=s.strand(p)
        by=False
        while nxt is not None:
            if nxt is ASSIGN:
                s.assign(value); by=True; nxt=None
                if s.pos>s.lo:
                    nxt=s.meet(True)
                    if isinstance(nxt,V): raise Ev(SYNTAX)
                continue
            f=s.function(nxt)
            left=None; nxt=None
            if s.pos>s.lo:
                nxt=s.meet(True)
                if isinstance(nxt,V): left,nxt=s.strand(nxt)
            value=H.apply(f,left,value,s.place); by=False
        return value,by
    def strand(s,last):
        ops=[last]; nxt=None
        while s.pos>s.lo:
            nxt=s.meet(True)
            if not isinstance(nxt,V): break
            ops.append(nxt); nxt=None
        if len(ops)==1: return last,nxt
        if len(ops)>1000: raise Ev(LIMIT)
        v=done(VEC([box(o) for o in ops[::-1]]))
        s.H.spend(size(v))
        return v,nxt
    def fun_at_end(s,p):
        H=s.H
        f=s.function(p)
        if s.pos==s.lo: return f,False
        if s.kind()!=':=':
            s.meet(False); raise Ev(SYNTAX)
        H.spend(1)
        if s.pos-1==s.lo+1 and s.tk[s.lo].t=='name':
            name=s.tk[s.lo].x
            a,b=s.tk[s.lo+2].a,s.tk[s.hi-1].b
            if s.place is H.house:
                if name not in H.house.names and len(H.house.names)>=60: raise Ev(LIMIT)
                tot=sum(m.len for n,m in H.house.names.items() if isinstance(m,Named) and n!=name)
                if tot+b-a>6000: raise Ev(LIMIT)
            nm=Named(s.src,s.lo+2,s.hi,s.place); nm.len=b-a
            H.setname(s.place,name,nm)
            return None,True
        raise Ev(SYNTAX)
    def rankahead(s,v):
        if s.kind()=='op' and s.tk[s.pos-1].x in ('rank','pow'):
            op=s.tk[s.pos-1].x
            s.H.spend(1); s.pos-=1
            return Made(op,None,v)
        return v
    def meet(s,assignable):
        H=s.H; t=s.tk[s.pos-1]
        if t.t==':=':
            if not assignable: raise Ev(SYNTAX)
            H.spend(1)
            s.pos-=1
            if s.form() is None: raise Ev(SYNTAX)
            return ASSIGN
        if t.t=='op':
            H.spend(1)
            if t.x in ('.','rank','pow'): raise Ev(SYNTAX)
            s.pos-=1
            return Made(t.x)
        p=s.thing()
        return s.rankahead(p) if isinstance(p,V) else p
    def thing(s):
        """operand (with indices) or primary (with axis)"""
        H=s.H; t=s.tk[s.pos-1]
        if t.t==']':
            H.enter()
            ixs=s.indices(t.m+1,s.pos-1)
            s.pos=t.m
            b=s.tk[s.pos-1] if s.pos>s.lo else None
            if b is None: raise Ev(SYNTAX)
            if b.x in AXT and b.t in('fn','op'):
                if len(ixs)!=1 or ixs[0] is None: raise Ev(SYNTAX)
                H.leave()
                H.spend(1); s.pos-=1
                return Made(b.x,None,ixs[0]) if b.t=='op' else Prim(b.x,ixs[0])
            if b.t not in ('num','str','name','left','right',')',']'): raise Ev(SYNTAX)
            x=s.thing()
            if not isinstance(x,V): raise Ev(SYNTAX)
            H.spend(1+size(x)+sum(size(i) for i in ixs if i is not None))
            offs,sh=s.locate(x,ixs)
            r=done(V(sh,[x.it[o] for o in offs],fill(x)))
            H.spend(size(r))
            H.leave()
            return r
        if t.t not in ('num','str','name','left','right','self',')','}','fn'): raise Ev(SYNTAX)
        H.spend(1)
        if t.t==')':
            if t.m==s.pos-2: raise Ev(VALUE)
            H.enter()
            r,_=H.phrase(s.src,t.m+1,s.pos-1,s.place)
            H.leave()
            s.pos=t.m
            if r is None: raise Ev(VALUE)
            return r
        s.pos-=1
        if t.t=='num': return scal(('n',t.x))
        if t.t=='str':
            if len(t.x)==1: return scal(('s',t.x[0]))
            return VEC([('s',c) for c in t.x],('s',32))
        if t.t=='fn': return Prim(t.x)
        if t.t=='}':
            s.pos=t.m
            return Brace(s.src,t.m+1,s.tk[t.m].m,s.place)
        if t.t=='name':
            p=H.find(t.x,s.place)
            if p is None: raise Ev(VALUE)
            return p.names[t.x]
        x=getattr(s.place,t.t)
        if x is None: raise Ev(VALUE)
        return x
    def indices(s,lo,hi):
        parts=split_at(s.tk,lo,hi,(';',))
        out=[]
        for a,b in reversed(parts):
            out.append(None if a==b else s.H.worth(s.src,a,b,s.place))
        return out[::-1]
    def locate(s,x,ixs):
        H=s.H
        if len(ixs)!=x.rank: raise Ev(RANK)
        ws=[None if i is None else whs(i) for i in ixs]
        for w,e in zip(ws,x.sh):
            if w is not None and any(not 0<=k-H.origin<e for k in w): raise Ev(INDEX)
        sh=[]
        for i,e in zip(ixs,x.sh): sh+= [e] if i is None else list(i.sh)
        check_shape(sh)
        lists=[range(e) if w is None else [k-H.origin for k in w] for w,e in zip(ws,x.sh)]
        return [off(x.sh,q) for q in itertools.product(*lists)],sh
    def function(s,piece):
        H=s.H
        ops=[]
        while True:
            if not isfun(piece): raise Ev(SYNTAX)
            if isinstance(piece,Made) and piece.f is None:
                ops.append(piece)
            else:
                if isinstance(piece,Named): piece=s.named(piece)
                if s.kind()=='op' and s.tk[s.pos-1].x=='.':
                    H.spend(1); s.pos-=1
                    ops.append(Made('.',None,piece))
                else: break
            if s.pos==s.lo: raise Ev(SYNTAX)
            piece=s.meet(False)
        f=piece
        for o in reversed(ops): f=Made(o.op,f,o.x)
        return f
    def named(s,n):
        H=s.H
        H.enter()
        r,_=H.phrase(n.tk,n.lo,n.hi,n.place)
        H.leave()
        if not isfun(r): raise Ev(SYNTAX)
        return r
    def form(s):
        t=s.kind()
        if t is None: return None
        if t=='name': return 1
        if t=='fn': return 3 if s.kind(2)=='name' else None
        if t==']':
            m=s.tk[s.pos-1].m
            return 4 if m-1>=s.lo and s.tk[m-1].t=='name' else None
        if t==')':
            m=s.tk[s.pos-1].m
            ins=s.tk[m+1:s.pos-1]
            if not ins: return None
            if all(i.t=='name' for i in ins): return 2
            return 5 if ins[-1].t=='name' else None
        return None
    def valname(s,name):
        p=s.H.find(name,s.place)
        if p is None or isinstance(p.names[name],Named): raise Ev(VALUE)
        return p
    def fits(s,val,sh):
        if val.count==1: return
        if val.rank!=len(sh): raise Ev(RANK)
        if val.sh!=tuple(sh): raise Ev(LENGTH)
    def assign(s,val):
        H=s.H; fm=s.form(); tk=s.tk
        if fm==1:
            H.setname(s.place,tk[s.pos-1].x,val); H.spend(size(val)); s.pos-=1
        elif fm==2:
            m=tk[s.pos-1].m
            names=[t.x for t in tk[m+1:s.pos-1]]
            if val.count!=1:
                if val.rank!=1: raise Ev(RANK)
                if val.count!=len(names): raise Ev(LENGTH)
            for k in range(len(names)-1,-1,-1):
                v=opn(val.it[0 if val.count==1 else k])
                H.setname(s.place,names[k],v); H.spend(size(v))
            s.pos=m
        elif fm==3:
            name=tk[s.pos-2].x; p=s.valname(name)
            r=H.apply(Prim(tk[s.pos-1].x),p.names[name],val,s.place)
            p.names[name]=r; H.spend(size(r)); s.pos-=2
        elif fm==4:
            m=tk[s.pos-1].m
            H.enter()
            ixs=s.indices(m+1,s.pos-1)
            name=tk[m-1].x; p=s.valname(name); own=p.names[name]
            offs,sh=s.locate(own,ixs)
            s.fits(val,sh)
            s.store(p,name,own,offs,val)
            H.leave()
            s.pos=m-1
        else:
            m=tk[s.pos-1].m
            H.spend(1)
            H.enter()
            H.spend(1)
            name=tk[s.pos-2].x; p=s.valname(name); own=p.names[name]
            wv=V(own.sh,[N(k+1) for k in range(own.count)])
            H.spend(size(wv))
            r,_=H.phrase(s.src,m+1,s.pos-1,s.place,wv)
            H.leave()
            if r is None: raise Ev(VALUE)
            if isfun(r): raise Ev(SYNTAX)
            offs=[k-1 for k in whs(r,1,own.count)]
            s.fits(val,r.sh)
            s.store(p,name,own,offs,val)
            s.pos=m
    def store(s,p,name,own,offs,val):
        it=list(own.it)
        for k,o in enumerate(offs): it[o]=val.it[0 if val.count==1 else k]
        r=done(V(own.sh,it,own.fill))
        p.names[name]=r
        s.H.spend(size(r))
def lane(v):
    k=0
    its=v.it or [v.fill]
    if any(i[0]=='b' for i in its): return 8
    sg=any(i[0]=='s' for i in its); nm=[i[1] for i in its if i[0]=='n']
    if sg: return 7 if nm else 6
    if any(x.denominator!=1 for x in nm): return 5
    if all(x in(0,1) for x in nm): return 1
    if all(-128<=x<=127 for x in nm): return 2
    if all(-32768<=x<=32767 for x in nm): return 3
    return 4
def dump(v):
    """canonical text of a value incl. structure, for comparison"""
    def it(i):
        if i[0]=='n': return '%d/%d'%(i[1].numerator,i[1].denominator)
        if i[0]=='s': return 's%d'%i[1]
        return '<'+dump(i[1])+'>'
    def kf(i): return 'n0' if i[0]=='n' else ('s32' if i[0]=='s' else 'b')
    return '[%s]%s|%s'%(','.join(map(str,v.sh)),' '.join(it(i) for i in v.it),'s%d d%d l%d f%s'%(size(v),depth(v),lane(v),kf(fill(v))))
