"""A second oracle: DOC.md read again from its first line and written down anew, apart from oracle.py. Items are looked up by
their coordinates, EVENTS of an application are gathered and the least comes, a GUARD catches exceptions.
    python3 tools/fuzz.py SEED SESSIONS MODE second
"""
import functools, itertools, math, sys
from fractions import Fraction as Q
sys.setrecursionlimit(100000)
SYN,VAL,RNK,LEN,DOM,IDX,LIM,STP=range(1,9)
TOP=2000000000
class Ev(Exception):
    def __init__(s,c): s.code=c
def ev(c): raise Ev(c)
def least(*es):
    es=[e for e in es if e]
    if es: raise Ev(min(es))

# ---------- 1 values. item: ('n',Q) ('s',byte) ('b',V)
ZERO=('n',Q(0)); BLANK=('s',32)
class V:
    __slots__=('ext','it','fl','_s','_d')
    def __init__(s,ext,it,fl=ZERO):
        s.ext=tuple(ext); s.it=list(it); s.fl=fl; s._s=None; s._d=None
        n=1
        for e in s.ext: n*=e
        assert n==len(s.it),(ext,len(s.it))
    rank=property(lambda s:len(s.ext))
    count=property(lambda s:len(s.it))
def count_of(ext):
    n=1
    for e in ext: n*=e
    return n
def size(v):
    if v._s is None:
        if v.count==0: v._s=1+size(v.fl[1]) if v.fl[0]=='b' else 0
        else: v._s=v.count+sum(size(i[1]) for i in v.it if i[0]=='b')
    return v._s
def depth(v):
    if v._d is None:
        if v.rank==0 and v.it[0][0]!='b': v._d=0
        elif v.count==0: v._d=1+(depth(v.fl[1]) if v.fl[0]=='b' else 0)
        else: v._d=1+max([depth(i[1]) for i in v.it if i[0]=='b'],default=0)
    return v._d
def bad_shape(ext): return LIM if len(ext)>6 or any(e>1000 for e in ext) or count_of(ext)>1000 else 0
def bounds(v):
    if bad_shape(v.ext) or size(v)>1000 or depth(v)>8: ev(LIM)
    return v
def boxing(v): return v.it[0] if v.rank==0 and v.it[0][0]!='b' else ('b',v)
def opening(i): return i[1] if i[0]=='b' else V((),[i])
def fill_of_item(i):
    if i[0]=='n': return ZERO
    if i[0]=='s': return BLANK
    w=i[1]
    if w.count==0: return ('b',V(w.ext,[],w.fl))
    return ('b',V(w.ext,[fill_of_item(j) for j in w.it]))
def fill(v): return fill_of_item(v.it[0]) if v.count else v.fl
def alike(a,b):
    if a[0]!=b[0]: return False
    return match(a[1],b[1]) if a[0]=='b' else a[1]==b[1]
def match(a,b):
    if a.ext!=b.ext: return False
    if not a.count: return alike(a.fl,b.fl)
    return all(alike(x,y) for x,y in zip(a.it,b.it))
def before(a,b):
    """-1 0 1 by ORDER"""
    ks='nsb'
    if a[0]!=b[0]: return -1 if ks.index(a[0])<ks.index(b[0]) else 1
    if a[0]!='b': return (a[1]>b[1])-(a[1]<b[1])
    v,w=a[1],b[1]
    if v.rank!=w.rank: return -1 if v.rank<w.rank else 1
    if v.ext!=w.ext: return -1 if v.ext<w.ext else 1
    if not v.count: return before(v.fl,w.fl)
    for x,y in zip(v.it,w.it):
        c=before(x,y)
        if c: return c
    return 0
def coords(ext): return itertools.product(*[range(e) for e in ext])
def place(ext,c):
    p=0
    for e,x in zip(ext,c): p=p*e+x
    return p
def at(v,c): return v.it[place(v.ext,c)]
def build(ext,f,fl):
    """A value of those extents; f tells the item at each place."""
    if bad_shape(ext): ev(LIM)
    return V(ext,[f(c) for c in coords(ext)],fl)
def vector(items,fl=ZERO): return build((len(items),),lambda c:items[c[0]],fl)
def N(x):
    q=Q(x)
    if abs(q.numerator)>TOP or q.denominator>TOP: ev(LIM)
    return ('n',q)
def scalar(x): return V((),[N(x)])
def whole(i,lo=-TOP,hi=TOP): return i[0]=='n' and i[1].denominator==1 and lo<=i[1]<=hi
def wholes(v,lo=-TOP,hi=TOP): return all(whole(i,lo,hi) for i in v.it)
def ints(v): return [int(i[1]) for i in v.it]
def floor(q): return q.numerator//q.denominator

# ---------- 2 texts
WORDS1="floor ceil not min max and or gcd lcm rho tally depth first enc mix split enl rev rot tr take drop rep expand uniq up down iota where mem find pick match without union inter part penc enco deco fmt exe same".split()
OPW=['key','rank','pow']; ARGS=['left','right','self']
SIGNS="+ - * % ^ | ! ? , = /= < <= > >=".split()
OPS=['/','\\','"','~','@','.']
ALLSIGNS=sorted(SIGNS+OPS+list('()[]{};\n')+[':','::',':='],key=len,reverse=True)
FUNS=set(SIGNS+WORDS1)
class Tok:
    __slots__=('k','v','a','b','mate')
    def __init__(s,k,v,a,b): s.k=k; s.v=v; s.a=a; s.b=b; s.mate=None
class Fault(Exception):
    def __init__(s,p): s.p=p
dig=lambda c:48<=c<=57
let=lambda c:97<=c<=122
def tokens(bs):
    out=[]; stack=[]; flags=[]
    i=0; n=len(bs)
    def add(k,v,a,b):
        out.append(Tok(k,v,a,b))
    while i<n:
        c=bs[i]
        if c==32: i+=1; continue
        if c==35:
            while i<n and bs[i]!=10: i+=1
            continue
        if c==95 or dig(c):
            j=i+(c==95)
            k=j
            while k<n and dig(bs[k]): k+=1
            if k==j or k-j>10: raise Fault(i)
            a=int(bs[j:k]); b=1
            if k+1<n and bs[k]==114 and dig(bs[k+1]):
                j=k+1; k=j
                while k<n and dig(bs[k]): k+=1
                if k-j>10: raise Fault(i)
                b=int(bs[j:k])
            if a>TOP or b>TOP or b==0: raise Fault(i)
            add('num',Q(-a if c==95 else a,b),i,k); i=k; continue
        if let(c):
            k=i
            while k<n and (let(bs[k]) or dig(bs[k])): k+=1
            if k-i>8: raise Fault(i)
            w=bs[i:k].decode()
            if w in FUNS: add('fun',w,i,k)
            elif w in OPW: add('op',w,i,k)
            elif w in ARGS: add(w,w,i,k)
            else: add('name',w,i,k)
            i=k; continue
        if c==39:
            k=i+1; got=[]
            while True:
                if k>=n or not 32<=bs[k]<=126: raise Fault(i)
                if bs[k]==39:
                    if k+1<n and bs[k+1]==39: got.append(39); k+=2; continue
                    break
                got.append(bs[k]); k+=1
            add('quo',got,i,k+1); i=k+1; continue
        for s in ALLSIGNS:
            if bs[i:i+len(s)]==s.encode(): break
        else: raise Fault(i)
        e=i+len(s)
        if s in '([{':
            add(s,s,i,e); stack.append(len(out)-1); flags.append(False)
        elif s in ')]}':
            if not stack or '([{'.index(out[stack[-1]].k)!=')]}'.index(s): raise Fault(i)
            add(s,s,i,e); o=stack.pop(); flags.pop(); out[o].mate=len(out)-1; out[-1].mate=o
        elif s in ';\n':
            if stack and (out[stack[-1]].k=='(' or s=='\n' and out[stack[-1]].k=='['): raise Fault(i)
            if stack: flags[-1]=False
            add(s,s,i,e)
        elif s in (':','::'):
            if not stack or out[stack[-1]].k!='{' or flags[-1]: raise Fault(i)
            flags[-1]=True
            add(s,s,i,e)
        elif s in FUNS: add('fun',s,i,e)
        elif s in OPS: add('op',s,i,e)
        else: add(s,s,i,e)
        i=e
    if stack: raise Fault(out[stack[-1]].a)
    return out
class Text:
    def __init__(s,bs): s.bs=bs; s.t=tokens(bs)
    def cut(s,lo,hi,kinds):
        """Pieces between tokens of those kinds that are in no bracket."""
        r=[]; st=lo; i=lo
        while i<hi:
            k=s.t[i].k
            if k in kinds: r.append((st,i)); st=i+1
            elif k in ('(','[','{'): i=s.t[i].mate
            i+=1
        r.append((st,hi)); return r

# ---------- functions as things
class F:
    def __init__(s,k,**kw): s.k=k; s.__dict__.update(kw)
class Place:
    def __init__(s,around,most): s.around=around; s.most=most; s.names={}; s.left=s.right=s.me=None; s.guards=[]
class Kept:
    """A function's text."""
    def __init__(s,text,lo,hi,place):
        s.text=text; s.lo=lo; s.hi=hi; s.place=place; s.len=text.t[hi-1].b-text.t[lo].a
ASG='ASG'
MONAD=set("+ - * % | ! ? , floor ceil not rho tally depth first enc mix split enl rev tr uniq up down iota where fmt exe same".split())
DYAD=set("+ - * % ^ | ! ? , = /= < <= > >= min max and or gcd lcm rho rot tr take drop rep expand iota mem find pick match without union inter part penc enco deco same".split())
AXED=set([',','rev','rot','rep','expand'])
class House:
    def __init__(s):
        s.house=Place(None,60); s.origin=1; s.link=1; s.out=b''; s.spent=0; s.evat=-1; s.opened=0
    # --- 9
    def spend(s,n):
        if s.spent+n>40000: ev(STP)
        s.spent+=n
    def enter(s):
        if s.opened>=40: ev(LIM)
        s.opened+=1
    def leave(s): s.opened-=1
    def run(s,bs):
        s.out=b''; s.spent=0; s.evat=-1; s.opened=0
        try: tx=Text(bs)
        except Fault as f: return -10-f.p
        for i,(lo,hi) in enumerate(tx.cut(0,len(tx.t),(';','\n'))):
            if lo==hi: continue
            try:
                s.spend(1)
                p=Phrase(s,tx,lo,hi,s.house); r=p.go()
                if isinstance(r,F): ev(SYN)
            except Ev as e:
                s.evat=i; s.out=s.out[:8000]; return e.code
            if r is not None and not p.by: s.out+=bytes(s.text_of(r))+b'\n'
        s.out=s.out[:8000]
        return 0
    def text_of(s,v):
        o=[]
        if v.rank>1: o+=list(('['+' '.join(map(str,v.ext))+']').encode())
        parts=[]
        for i in v.it:
            if i[0]=='s': parts.append([i[1]])
            elif i[0]=='b': parts.append([40]+s.text_of(i[1])+[41])
            else:
                q=i[1]
                parts.append(list((('_' if q<0 else '')+str(abs(q.numerator))+('r%d'%q.denominator if q.denominator!=1 else '')).encode()))
        sep=[] if all(i[0]=='s' for i in v.it) else [32]
        for k,p in enumerate(parts):
            if k: o+=sep
            o+=p
        return o
    # --- 4
    def look(s,pl,name):
        while pl is not None:
            if name in pl.names: return pl
            pl=pl.around
        return None
    def assign(s,pl,name,v):
        if name not in pl.names and len(pl.names)>=pl.most: ev(LIM)
        pl.names[name]=v
        if isinstance(v,V): s.spend(size(v))
    def value_place(s,pl,name):
        q=s.look(pl,name)
        if q is None or not isinstance(q.names[name],V): ev(VAL)
        return q
    # --- applications
    def takes(s,f,two):
        if f.k=='prim':
            if f.w==',' and not two and f.axis is not None: return False
            return f.w in (DYAD if two else MONAD)
        if f.k=='made':
            if f.op=='\\': return not two
            if f.op in '@.': return two
        return True
    def apply(s,f,a,w,pl):
        if not s.takes(f,a is not None): ev(SYN)
        s.spend(1+size(w)+(size(a) if a is not None else 0))
        if f.k=='prim':
            if f.w=='exe': r=s.exe(w,pl)
            else: r=bounds(s.prim(f,a,w))
        elif f.k=='brace':
            s.enter(); r=s.call(f,a,w); s.leave()
        else:
            s.enter(); r=s.made(f,a,w,pl); s.leave()
        s.spend(size(r))
        return r
    def exe(s,w,pl):
        s.enter()
        if w.rank>1: ev(RNK)
        if any(i[0]!='s' for i in w.it): ev(DOM)
        try: tx=Text(bytes(i[1] for i in w.it))
        except Fault: ev(SYN)
        r=None
        for lo,hi in tx.cut(0,len(tx.t),(';','\n')):
            if lo==hi: continue
            s.spend(1)
            r=Phrase(s,tx,lo,hi,pl).go()
            if isinstance(r,F): ev(SYN)
        if r is None: ev(VAL)
        s.leave()
        return r
    # --- 5
    def call(s,f,a,w):
        pl=Place(f.place,20); pl.left=a; pl.right=w; pl.me=f
        mine=s.opened
        work=lambda: s.body(f,pl)
        while True:
            try: return work()
            except Ev as e:
                if e.code>7: raise
                for k in range(len(pl.guards)-1,-1,-1):
                    es,lo,hi=pl.guards[k]
                    if e.code in es or 0 in es: break
                else: raise
                pl.guards=pl.guards[:k]
                s.opened=mine
                def work(lo=lo,hi=hi): return s.must(f.text,lo,hi,pl)
    def must(s,tx,lo,hi,pl):
        if lo==hi: ev(VAL)
        r=Phrase(s,tx,lo,hi,pl).go()
        if r is None: ev(VAL)
        if isinstance(r,F): ev(SYN)
        return r
    def body(s,f,pl):
        tx=f.text
        for lo,hi in tx.cut(f.lo,f.hi,(';','\n')):
            if lo==hi: continue
            s.spend(1)
            parts=tx.cut(lo,hi,(':','::'))
            if len(parts)==1:
                p=Phrase(s,tx,lo,hi,pl); r=p.go()
                if isinstance(r,F): ev(SYN)
                if r is None or p.by: continue
                return r
            (l1,h1),(l2,h2)=parts
            c=s.must(tx,l1,h1,pl)
            if tx.t[h1].k=='::':
                if not wholes(c,0,7): ev(DOM)
                pl.guards.append((set(ints(c)),l2,h2))
                continue
            if c.count!=1: ev(LEN)
            if not whole(c.it[0],0,1): ev(DOM)
            if c.it[0][1]==1: return s.must(tx,l2,h2,pl)
        ev(VAL)
    # --- 6
    def alone(s,w,fn):
        out=[]; n=0
        for i in w.it:
            if i[0]=='b':
                x=s.alone(i[1],fn); out.append(('b',x)); n+=1+size(x)
            else:
                if i[0]=='s': ev(DOM)
                out.append(N(fn(i[1]))); n+=1
            if n>1000: ev(LIM)
        return V(w.ext,out)
    def pairs(s,a,w):
        """The extents and which items go together."""
        if a.rank==0 or w.rank==0:
            if a.rank==0 and w.rank==0: return a.ext,[(0,0)]
            if a.rank==0: return w.ext,[(0,i) for i in range(w.count)]
            return a.ext,[(i,0) for i in range(a.count)]
        if a.count==1 or w.count==1:
            if a.count==1 and w.count==1:
                return (a.ext if w.rank<=a.rank else w.ext),[(0,0)]
            if a.count==1: return w.ext,[(0,i) for i in range(w.count)]
            return a.ext,[(i,0) for i in range(a.count)]
        if a.rank!=w.rank: ev(RNK)
        if a.ext!=w.ext: ev(LEN)
        return a.ext,[(i,i) for i in range(a.count)]
    def both(s,a,w,fn,signs):
        ext,ps=s.pairs(a,w)
        out=[]; n=0
        for i,j in ps:
            x,y=a.it[i],w.it[j]
            if x[0]=='b' or y[0]=='b':
                v=s.both(opening(x),opening(y),fn,signs); out.append(boxing(v)); n+=1+size(v)
            elif signs: out.append(N(fn(x,y))); n+=1
            else:
                if x[0]=='s' or y[0]=='s': ev(DOM)
                out.append(N(fn(x[1],y[1]))); n+=1
            if n>1000: ev(LIM)
        return V(ext,out)
    def roll(s):
        s.link=16807*s.link%2147483647
        return s.link
    def one(s,w):
        def f(x):
            if w=='+': return x
            if w=='-': return -x
            if w=='*': return (x>0)-(x<0)
            if w=='%': return 1/x if x else ev(DOM)
            if w=='|': return abs(x)
            if w=='!':
                if x.denominator!=1 or x<0: ev(DOM)
                p=1
                for k in range(2,int(x)+1):
                    p*=k
                    if p>TOP: ev(LIM)
                return p
            if w=='floor': return floor(x)
            if w=='ceil': return -floor(-x)
            if w=='not': return 1-x if x in (0,1) else ev(DOM)
            if w=='?':
                if x.denominator!=1 or x<1: ev(DOM)
                return s.origin+s.roll()%int(x)
        return f
    def two(s,w):
        def power(x,k):
            if k.denominator!=1: ev(DOM)
            k=int(k)
            if k==0: return 1
            if x==0: return 0 if k>0 else ev(DOM)
            if abs(x)==1: return x if k%2 else 1
            if abs(k)>64: ev(LIM)
            return x**k
        def choose(n,m):
            if n.denominator!=1 or m.denominator!=1 or n<0 or m<0: ev(DOM)
            n=int(n); m=int(m)
            if n>m: return 0
            n=min(n,m-n); r=1
            for k in range(n):
                r=r*(m-k)//(k+1)
                if r>TOP: ev(LIM)
            return r
        def g(x,y):
            if w=='+': return x+y
            if w=='-': return x-y
            if w=='*': return x*y
            if w=='%':
                if y: return x/y
                return 1 if x==0 else ev(DOM)
            if w=='^': return power(x,y)
            if w=='|': return y-x*floor(y/x) if x else y
            if w=='!': return choose(x,y)
            if w=='min': return min(x,y)
            if w=='max': return max(x,y)
            if w=='<': return int(x<y)
            if w=='<=': return int(x<=y)
            if w=='>': return int(x>y)
            if w=='>=': return int(x>=y)
            if w in('and','or'):
                if x not in(0,1) or y not in(0,1): ev(DOM)
                return min(x,y) if w=='and' else max(x,y)
            if x.denominator!=1 or y.denominator!=1: ev(DOM)
            x=abs(int(x)); y=abs(int(y)); d=math.gcd(x,y)
            if w=='gcd': return d
            return x*y//d if x and y else 0
        return g
    # --- 7
    def axis(s,ax,rank):
        """From 0 on, of so many."""
        if ax.count!=1: ev(LEN)
        if not whole(ax.it[0]): ev(DOM)
        k=int(ax.it[0][1])-s.origin
        if not 0<=k<rank: ev(IDX)
        return k
    def prim(s,f,a,w):
        n=f.w
        if n in ('+','-','*','%','|','!','floor','ceil','not') and a is None or n=='?' and a is None:
            return s.alone(w,s.one(n))
        if n in ('=','/='):
            return s.both(a,w,lambda x,y:int(alike(x,y)==(n=='=')),True)
        if n in ('+','-','*','%','^','|','!','<','<=','>','>=','min','max','and','or','gcd','lcm'):
            return s.both(a,w,s.two(n),False)
        nm={',':'comma','?':'deal'}.get(n,n)
        return getattr(s,('m_' if a is None else 'd_')+nm)(f,a,w)
    def m_same(s,f,a,w): return w
    d_same=m_same
    def m_rho(s,f,a,w): return vector([N(e) for e in w.ext])
    def vec(s,x): return RNK if x.rank>1 else 0
    def d_rho(s,f,a,w):
        least(s.vec(a),0 if wholes(a,0) else DOM)
        ext=ints(a)
        least(bad_shape(ext))
        src=w.it if w.count else [w.fl]
        return V(ext,[src[i%len(src)] for i in range(count_of(ext))],fill(w))
    def m_comma(s,f,a,w): return vector(w.it,fill(w))
    def d_comma(s,f,a,w):
        R=max(a.rank,w.rank)
        if f.axis is not None:
            if f.axis.count!=1: ev(LEN)
            i=f.axis.it[0]
            if i[0]!='n': ev(DOM)
            if i[1].denominator!=1: return s.laminate(i[1],a,w)
            k=int(i[1])-s.origin
            if not 0<=k<max(R,1): ev(IDX)
        else: k=max(R,1)-1
        if R==0: return vector([a.it[0],w.it[0]])
        if a.rank!=w.rank and abs(a.rank-w.rank)!=1 and a.rank and w.rank: ev(RNK)
        def full(x,other):
            if x.rank==R: return x
            if x.rank==0:
                e=other.ext[:k]+(1,)+other.ext[k+1:]
                return V(e,x.it*count_of(e),fill(x))
            return V(x.ext[:k]+(1,)+x.ext[k:],x.it,x.fl)
        # a scalar is as often there as the other has places on other axes: none, perhaps
        A,W=full(a,w),full(w,a)
        if A.ext[:k]+A.ext[k+1:]!=W.ext[:k]+W.ext[k+1:]: ev(LEN)
        e=A.ext[:k]+(A.ext[k]+W.ext[k],)+A.ext[k+1:]
        return build(e,lambda c: at(A,c) if c[k]<A.ext[k] else at(W,c[:k]+(c[k]-A.ext[k],)+c[k+1:]),fill(a))
    def laminate(s,x,a,w):
        R=max(a.rank,w.rank)
        if not s.origin-1<x: ev(IDX)
        if not x<(s.origin+R): ev(IDX)
        if a.rank!=w.rank and a.rank and w.rank: ev(RNK)
        if a.rank==w.rank and a.ext!=w.ext: ev(LEN)
        big=a if a.rank==R else w
        # ahead of the first axis whose number is greater
        k=next((j for j in range(R) if j+s.origin>x),R)
        e=big.ext[:k]+(2,)+big.ext[k:]
        def it(c):
            v=a if c[k]==0 else w
            return v.it[0] if v.rank==0 else at(v,c[:k]+c[k+1:])
        return build(e,it,fill(a))
    def m_tally(s,f,a,w): return scalar(w.ext[0] if w.rank else 1)
    def m_depth(s,f,a,w): return scalar(depth(w))
    def m_first(s,f,a,w): return opening(w.it[0] if w.count else w.fl)
    def m_enc(s,f,a,w): return V((),[boxing(w)])
    def m_mix(s,f,a,w):
        op=[opening(i) for i in (w.it if w.count else [w.fl])]
        R=max(v.rank for v in op)
        es=[(1,)*(R-v.rank)+v.ext for v in op]
        E=tuple(max(e[k] for e in es) for k in range(R))
        ext=w.ext+E
        least(bad_shape(ext))
        out=[]
        if w.count:
            for v,e in zip(op,es):
                x=V(e,v.it,v.fl); fl=fill(v)
                for c in coords(E):
                    out.append(at(x,c) if all(p<q for p,q in zip(c,e)) else fl)
        return V(ext,out,fill(op[0]))
    def m_split(s,f,a,w):
        if w.rank==0: return w
        e=w.ext[-1]; fl=fill(w)
        return build(w.ext[:-1],lambda c:('b',vector([at(w,c+(j,)) for j in range(e)],fl)),('b',vector([fl]*e,fl)))
    def m_enl(s,f,a,w):
        o=[]
        def go(v):
            for i in v.it:
                if i[0]=='b': go(i[1])
                else: o.append(i)
        go(w)
        return vector(o)
    def m_rev(s,f,a,w):
        k=s.axis(f.axis,w.rank) if f.axis is not None else w.rank-1
        if w.rank==0: return w
        return build(w.ext,lambda c: at(w,c[:k]+(w.ext[k]-1-c[k],)+c[k+1:]),fill(w))
    def d_rot(s,f,a,w):
        k=s.axis(f.axis,w.rank) if f.axis is not None else w.rank-1
        dom=0 if wholes(a) else DOM
        if w.rank==0:
            least(RNK if a.rank else 0,dom); return w
        rest=w.ext[:k]+w.ext[k+1:]
        least(0 if a.rank==0 else RNK if a.rank!=len(rest) else LEN if a.ext!=rest else 0,dom)
        def it(c):
            by=int((a.it[0] if a.rank==0 else at(a,c[:k]+c[k+1:]))[1])
            return at(w,c[:k]+((c[k]+by)%w.ext[k],)+c[k+1:])
        return build(w.ext,it,fill(w))
    def m_tr(s,f,a,w): return build(w.ext[::-1],lambda c:at(w,c[::-1]),fill(w))
    def d_tr(s,f,a,w):
        least(s.vec(a),LEN if a.count!=w.rank else 0,0 if wholes(a) else DOM)
        t=[x-s.origin for x in ints(a)]
        if any(not 0<=x<w.rank for x in t): ev(IDX)
        if t and set(t)!=set(range(max(t)+1)): ev(IDX)
        R=max(t)+1 if t else 0
        ext=tuple(min(w.ext[k] for k in range(w.rank) if t[k]==j) for j in range(R))
        return build(ext,lambda c:at(w,tuple(c[j] for j in t)),fill(w))
    def d_take(s,f,a,w):
        W=V((1,)*a.count,w.it) if w.rank==0 else w
        least(s.vec(a),LEN if a.count>W.rank else 0,0 if wholes(a) else DOM)
        t=ints(a)+list(W.ext[a.count:])
        ext=tuple(abs(x) for x in t)
        least(bad_shape(ext))
        fl=fill(W)
        def it(c):
            d=tuple(x if y>=0 else e+y+x for x,y,e in zip(c,t,W.ext))
            return at(W,d) if all(0<=x<e for x,e in zip(d,W.ext)) else fl
        return build(ext,it,fl)
    def d_drop(s,f,a,w):
        W=V((1,)*a.count,w.it) if w.rank==0 else w
        least(s.vec(a),LEN if a.count>W.rank else 0,0 if wholes(a) else DOM)
        t=ints(a)+[0]*(W.rank-a.count)
        ext=tuple(max(0,e-abs(x)) for x,e in zip(t,W.ext))
        least(bad_shape(ext))
        return build(ext,lambda c:at(W,tuple(x+max(0,y) for x,y in zip(c,t))),fill(W))
    def along(s,f,w):
        if f.axis is not None: k=s.axis(f.axis,w.rank)
        else: k=max(w.rank,1)-1
        return k,(V((1,),w.it) if w.rank==0 else w)
    def d_rep(s,f,a,w):
        k,W=s.along(f,w)
        e=W.ext[k]
        least(s.vec(a),LEN if a.count!=1 and a.count!=e and e!=1 else 0,0 if wholes(a) else DOM)
        t=ints(a)
        if len(t)==1: t=t*e
        src=[]
        for i,x in enumerate(t):
            if len(src)+abs(x)>1000: ev(LIM)
            src+=[None if x<0 else (0 if e==1 else i)]*abs(x)
        return s.put(W,k,src)
    def put(s,W,k,src):
        fl=fill(W)
        return build(W.ext[:k]+(len(src),)+W.ext[k+1:],lambda c: fl if src[c[k]] is None else at(W,c[:k]+(src[c[k]],)+c[k+1:]),fl)
    def d_expand(s,f,a,w):
        k,W=s.along(f,w)
        e=W.ext[k]
        least(s.vec(a))
        least(0 if wholes(a,0,1) else DOM)
        t=ints(a)
        if e!=1 and sum(t)!=e: ev(LEN)
        src=[]; nx=0
        for x in t:
            if x: src.append(0 if e==1 else nx); nx+=1
            else: src.append(None)
        return s.put(W,k,src)
    def m_uniq(s,f,a,w):
        least(s.vec(w)); o=[]
        for i in w.it:
            if not any(alike(i,j) for j in o): o.append(i)
        return vector(o,fill(w))
    def d_without(s,f,a,w):
        least(s.vec(a),s.vec(w))
        return vector([i for i in a.it if not any(alike(i,j) for j in w.it)],fill(a))
    def d_inter(s,f,a,w):
        least(s.vec(a),s.vec(w))
        return vector([i for i in a.it if any(alike(i,j) for j in w.it)],fill(a))
    def d_union(s,f,a,w):
        least(s.vec(a),s.vec(w))
        return vector(a.it+[i for i in w.it if not any(alike(i,j) for j in a.it)],fill(a))
    def grade(s,w,sg):
        if w.rank==0: ev(RNK)
        n=w.ext[0]; m=count_of(w.ext[1:])
        rows=[w.it[i*m:(i+1)*m] for i in range(n)]
        def cmp(i,j):
            for x,y in zip(rows[i],rows[j]):
                c=before(x,y)
                if c: return c*sg
            return i-j
        return vector([N(i+s.origin) for i in sorted(range(n),key=functools.cmp_to_key(cmp))])
    def m_up(s,f,a,w): return s.grade(w,1)
    def m_down(s,f,a,w): return s.grade(w,-1)
    def where_is(s,c): return ('b',vector([N(x+s.origin) for x in c]))
    def m_iota(s,f,a,w):
        least(s.vec(w),0 if wholes(w,0) else DOM)
        e=ints(w)
        if len(e)==1:
            least(bad_shape(e)); return vector([N(i+s.origin) for i in range(e[0])])
        return build(tuple(e),s.where_is,('b',vector([ZERO]*len(e))))
    def d_iota(s,f,a,w):
        if a.rank!=1: ev(RNK)
        def it(i):
            return N(s.origin+next((k for k,j in enumerate(a.it) if alike(i,j)),a.count))
        return V(w.ext,[it(i) for i in w.it])
    def m_where(s,f,a,w):
        if w.rank==0: ev(RNK)
        if not wholes(w,0): ev(DOM)
        if sum(ints(w))>1000: ev(LIM)
        o=[]
        for c,x in zip(coords(w.ext),ints(w)):
            o+=[N(c[0]+s.origin) if w.rank==1 else s.where_is(c)]*x
        return vector(o,ZERO if w.rank==1 else ('b',vector([ZERO]*w.rank)))
    def d_mem(s,f,a,w): return V(a.ext,[N(int(any(alike(i,j) for j in w.it))) for i in a.it])
    def d_find(s,f,a,w):
        if a.rank>w.rank: return V(w.ext,[ZERO]*w.count)
        A=V((1,)*(w.rank-a.rank)+a.ext,a.it,a.fl)
        def it(c):
            if any(p+x>e for p,x,e in zip(c,A.ext,w.ext)): return N(0)
            return N(int(all(alike(at(A,d),at(w,tuple(x+y for x,y in zip(c,d)))) for d in coords(A.ext))))
        return build(w.ext,it,ZERO)
    def d_pick(s,f,a,w):
        least(s.vec(a))
        here=w
        for i in a.it:
            p=opening(i)
            if p.rank>1 or p.count!=here.rank: ev(RNK)
            if not wholes(p): ev(DOM)
            c=tuple(x-s.origin for x in ints(p))
            if any(not 0<=x<e for x,e in zip(c,here.ext)): ev(IDX)
            here=opening(at(here,c))
        return here
    def d_match(s,f,a,w): return scalar(int(match(a,w)))
    def groups(s,a,w,gs):
        fl=fill(w)
        return vector([('b',vector(g,fl)) for g in gs],('b',vector([],fl)))
    def d_part(s,f,a,w):
        least(s.vec(a),s.vec(w),LEN if a.count!=w.count else 0,0 if wholes(a,0) else DOM)
        gs=[]; p=0
        for x,i in zip(ints(a),w.it):
            if x>p: gs.append([])
            if x: gs[-1].append(i)
            p=x
        return s.groups(a,w,gs)
    def d_penc(s,f,a,w):
        least(s.vec(a),s.vec(w),LEN if a.count!=w.count else 0,0 if wholes(a,0,1) else DOM)
        gs=[]
        for x,i in zip(ints(a),w.it):
            if x: gs.append([])
            if gs: gs[-1].append(i)
        return s.groups(a,w,gs)
    def numbers(s,*vs): return 0 if all(i[0]=='n' for v in vs for i in v.it) else DOM
    def d_enco(s,f,a,w):
        least(s.vec(a),s.numbers(a,w))
        ext=a.ext+w.ext
        least(bad_shape(ext))
        out=[None]*count_of(ext); m=w.count
        for j,i in enumerate(w.it):
            v=i[1]
            for k in range(a.count-1,-1,-1):
                x=a.it[k][1]
                out[k*m+j]=N(v-x*floor(v/x) if x else v)
                if k:
                    v=N(floor(v/x) if x else 0)[1]
        return V(ext,out,fill(w))
    def d_deco(s,f,a,w):
        least(s.vec(a),s.vec(w),LEN if a.count!=1 and a.count!=w.count else 0,s.numbers(a,w))
        v=Q(0)
        for k,i in enumerate(w.it):
            x=a.it[0 if a.count==1 else k][1]
            v=N(N(v*x)[1]+i[1])[1]
        return scalar(v)
    def d_deal(s,f,a,w):
        least(LEN if a.count!=1 or w.count!=1 else 0,0 if wholes(a,0) and wholes(w,0) and (not a.count or not w.count or a.it[0][1]<=w.it[0][1]) else DOM)
        n,m=ints(a)[0],ints(w)[0]
        if m>1000: ev(LIM)
        row=[s.origin+i for i in range(m)]
        for i in range(n):
            j=i+s.roll()%(m-i)
            row[i],row[j]=row[j],row[i]
        return vector([N(x) for x in row[:n]])
    def m_fmt(s,f,a,w):
        t=s.text_of(w)
        if len(t)>1000: ev(LIM)
        return vector([('s',c) for c in t],BLANK)
    # --- 8
    def made(s,f,a,w,pl):
        nm={'/':'slash','\\':'scan','"':'each','~':'swap','@':'outer','.':'inner'}.get(f.op,f.op)
        return getattr(s,'o_'+nm)(f,a,w,pl)
    def unit(s,g):
        if g.k!='prim' or g.axis is not None: return None
        n=g.w
        if n in ('+','-','|','or','gcd','<','>','/='): return 0
        if n in ('*','%','^','!','and','lcm','<=','>=','='): return 1
        return {'min':TOP,'max':-TOP}.get(n)
    def fold(s,g,vals,pl):
        """f/ of a row of values."""
        if not vals: return scalar(s.unit(g))
        v=vals[-1]
        for x in vals[-2::-1]: v=s.apply(g,x,v,pl)
        return v
    def ahead(s,g,ext,n):
        least(bad_shape(ext))
        if n==0 and count_of(ext) and s.unit(g) is None: ev(DOM)
        s.spend(count_of(ext))
    def o_slash(s,f,a,w,pl):
        g=f.f
        k=s.axis(f.x,w.rank) if f.x is not None else w.rank-1
        if a is None:
            if w.rank==0: return w
            n=w.ext[k]; ext=w.ext[:k]+w.ext[k+1:]
            s.ahead(g,ext,n)
            its=[boxing(s.fold(g,[opening(at(w,c[:k]+(j,)+c[k:])) for j in range(n)],pl)) for c in coords(ext)]
            return bounds(V(ext,its,fill(w)))
        least(RNK if w.rank==0 else 0,LEN if a.count!=1 else 0,0 if a.count==1 and whole(a.it[0]) else DOM)
        n=int(a.it[0][1]); e=w.ext[k]
        if abs(n)>e+1: ev(LEN)
        ext=w.ext[:k]+(e+1-abs(n),)+w.ext[k+1:]
        s.ahead(g,ext,n)
        def row(c):
            r=[opening(at(w,c[:k]+(c[k]+j,)+c[k+1:])) for j in range(abs(n))]
            return r[::-1] if n<0 else r
        its=[boxing(s.fold(g,row(c),pl)) for c in coords(ext)]
        return bounds(V(ext,its,fill(w)))
    def o_scan(s,f,a,w,pl):
        k=s.axis(f.x,w.rank) if f.x is not None else w.rank-1
        if w.rank==0: return w
        s.ahead(f.f,w.ext,1)
        its=[boxing(s.fold(f.f,[opening(at(w,c[:k]+(j,)+c[k+1:])) for j in range(c[k]+1)],pl)) for c in coords(w.ext)]
        return bounds(V(w.ext,its,fill(w)))
    def o_each(s,f,a,w,pl):
        if a is None:
            s.ahead(f.f,w.ext,1)
            return bounds(V(w.ext,[boxing(s.apply(f.f,None,opening(i),pl)) for i in w.it]))
        ext,ps=s.pairs(a,w)
        s.ahead(f.f,ext,1)
        return bounds(V(ext,[boxing(s.apply(f.f,opening(a.it[i]),opening(w.it[j]),pl)) for i,j in ps]))
    def o_swap(s,f,a,w,pl): return s.apply(f.f,w,w if a is None else a,pl)
    def o_outer(s,f,a,w,pl):
        ext=a.ext+w.ext
        s.ahead(f.f,ext,1)
        return bounds(V(ext,[boxing(s.apply(f.f,opening(i),opening(j),pl)) for i in a.it for j in w.it]))
    def o_inner(s,f,a,w,pl):
        A=a.ext[-1] if a.rank else None
        W=w.ext[0] if w.rank else None
        if A is None and W is None: n=1
        elif A is None: n=W
        elif W is None: n=A
        elif A==W: n=A
        elif A==1: n=W
        elif W==1: n=A
        else: ev(LEN)
        l,r=a.ext[:-1],w.ext[1:]
        s.ahead(f.f,l+r,n)
        out=[]
        for c in coords(l):
            for d in coords(r):
                row=[]
                for k in range(n):
                    x=a.it[0] if A is None else at(a,c+(0 if A==1 else k,))
                    y=w.it[0] if W is None else at(w,(0 if W==1 else k,)+d)
                    row.append(s.apply(f.x,opening(x),opening(y),pl))
                out.append(boxing(s.fold(f.f,row,pl)))
        return bounds(V(l+r,out))
    def mixed(s,ext,its):
        return bounds(s.m_mix(None,None,V(ext,its)))
    def o_rank(s,f,a,w,pl):
        k=f.x
        least(LEN if k.count!=1 and (a is None or k.count!=2) else 0,0 if wholes(k) else DOM)
        ks=ints(k)
        def taken(v,j): return min(j,v.rank) if j>=0 else max(0,v.rank+j)
        def frame(v,j): return v.ext[:v.rank-taken(v,j)]
        fw=frame(w,ks[-1]); fa=frame(a,ks[0]) if a is not None else ()
        if fa and fw:
            if len(fa)!=len(fw): ev(RNK)
            if fa!=fw: ev(LEN)
        ext=fa or fw
        s.ahead(f.f,ext,1)
        if not count_of(ext): return V(ext,[])
        def cell(v,fr,c):
            if not fr: return v
            e=v.ext[len(fr):]
            return V(e,[at(v,c+d) for d in coords(e)],fill(v))
        its=[boxing(s.apply(f.f,None if a is None else cell(a,fa,c),cell(w,fw,c),pl)) for c in coords(ext)]
        return s.mixed(ext,its)
    def o_pow(s,f,a,w,pl):
        k=f.x
        least(LEN if k.count!=1 else 0,0 if wholes(k,0) else DOM)
        n=int(k.it[0][1])
        while n>0:
            w=s.apply(f.f,a,w,pl); n-=1
        return w
    def o_key(s,f,a,w,pl):
        least(s.vec(w),s.vec(a) if a is not None else 0,LEN if a is not None and a.count!=w.count else 0)
        ks=(a if a is not None else w).it
        us=[]; gs=[]
        for i,x in enumerate(ks):
            y=N(i+s.origin) if a is None else w.it[i]
            for u,g in zip(us,gs):
                if alike(u,x): g.append(y); break
            else: us.append(x); gs.append([y])
        s.ahead(f.f,(len(us),),1)
        if not us: return V((0,),[])
        its=[boxing(s.apply(f.f,opening(u),vector(g),pl)) for u,g in zip(us,gs)]
        return s.mixed((len(us),),its)

# ---------- 3 phrases
class Phrase:
    """Worked out from its end; pos is where what was met begins."""
    def __init__(s,h,tx,lo,hi,pl,given=None):
        s.h=h; s.tx=tx; s.t=tx.t; s.lo=lo; s.hi=hi; s.pl=pl; s.pos=hi; s.by=False; s.given=given
    def kind(s): return s.t[s.pos-1].k if s.pos>s.lo else None
    def go(s):
        if s.lo==s.hi: return None
        m=s.meet(False)
        if isinstance(m,V): return s.values(m)
        f=s.function(m)
        if s.pos==s.lo: return f
        if s.kind()!=':=':
            s.meet(False); ev(SYN)
        s.h.spend(1)
        if s.pos-1!=s.lo+1 or s.t[s.lo].k!='name': ev(SYN)
        s.define(s.t[s.lo].v,s.pos,s.hi)
        s.by=True
        return None
    def define(s,name,lo,hi):
        k=Kept(s.tx,lo,hi,s.pl); pl=s.pl; h=s.h
        if name not in pl.names and len(pl.names)>=pl.most: ev(LIM)
        if pl is h.house:
            tot=sum(x.len for n,x in pl.names.items() if isinstance(x,Kept) and n!=name)
            if tot+k.len>6000: ev(LIM)
        pl.names[name]=k
    def side(s,m):
        """OPERANDS side by side from m on: their value, and what was met ahead of them (None: nothing)."""
        row=[m]; nx=None
        while s.pos>s.lo:
            nx=s.meet(True)
            if not isinstance(nx,V): break
            row.insert(0,nx); nx=None
        if len(row)==1: return m,nx
        if len(row)>1000: ev(LIM)
        v=bounds(vector([boxing(x) for x in row]))
        s.h.spend(size(v))
        return v,nx
    def values(s,m):
        v,nx=s.side(m)
        s.by=False
        while nx is not None:
            if nx is ASG:
                s.by=True
                s.assign(v)
                nx=s.meet(True) if s.pos>s.lo else None
                if isinstance(nx,V): ev(SYN)
                continue
            s.by=False
            f=s.function(nx); nx=None; a=None
            if s.pos>s.lo:
                nx=s.meet(True)
                if isinstance(nx,V): a,nx=s.side(nx)
            v=s.h.apply(f,a,v,s.pl)
        return v
    def meet(s,asg):
        """An OPERAND's value, a function (perhaps with a hole), or ASG."""
        t=s.t[s.pos-1]; k=t.k
        if k==':=':
            if not asg: ev(SYN)
            s.h.spend(1); s.pos-=1
            s.form=s.which()
            if not s.form: ev(SYN)
            return ASG
        if k=='op':
            s.h.spend(1)
            if t.v in ('.','rank','pow'): ev(SYN)
            s.pos-=1
            return F('hole',op=t.v,x=None)
        if s.given is not None and s.pos==s.hi:
            r=s.given; s.pos-=1
        else: r=s.piece()
        if isinstance(r,V) and s.pos>s.lo and s.t[s.pos-1].k=='op' and s.t[s.pos-1].v in ('rank','pow'):
            s.h.spend(1); s.pos-=1
            return F('hole',op=s.t[s.pos].v,x=r)
        return r
    def piece(s):
        return s.bracket() if s.kind()==']' else s.primary()
    def primary(s):
        h=s.h; t=s.t[s.pos-1]; k=t.k
        if k in (':',';','\n','::') : ev(SYN)
        if k==')':
            h.spend(1)
            o=t.mate
            if o==s.pos-2: ev(VAL)
            h.enter()
            r=Phrase(h,s.tx,o+1,s.pos-1,s.pl).go()
            h.leave()
            if r is None: ev(VAL)
            s.pos=o
            return r
        if k in ('num','quo','name','left','right','self','fun','}'):
            h.spend(1); s.pos-=1
            if k=='num': return V((),[('n',t.v)])
            if k=='quo':
                return V((),[('s',t.v[0])]) if len(t.v)==1 else bounds(vector([('s',c) for c in t.v],BLANK))
            if k=='fun': return F('prim',w=t.v,axis=None)
            if k=='}':
                s.pos=t.mate
                return F('brace',text=s.tx,lo=t.mate+1,hi=s.t[t.mate].mate,place=s.pl)
            if k=='name':
                q=h.look(s.pl,t.v)
                if q is None: ev(VAL)
                m=q.names[t.v]
                return m if isinstance(m,V) else F('named',kept=m)
            r={'left':s.pl.left,'right':s.pl.right,'self':s.pl.me}[k]
            if r is None: ev(VAL)
            return r
        ev(SYN)
    def indices(s,lo,hi):
        r=[]
        for l,h in s.tx.cut(lo,hi,(';',))[::-1]:
            r.insert(0,None if l==h else s.h.must(s.tx,l,h,s.pl))
        return r
    def bracket(s):
        h=s.h; o=s.t[s.pos-1].mate
        h.enter()
        ix=s.indices(o+1,s.pos-1)
        s.pos=o
        t=s.t[o-1] if o>s.lo else None
        if t is not None and (t.k=='fun' and t.v in AXED or t.k=='op' and t.v in '/\\'):
            h.leave()
            if len(ix)!=1 or ix[0] is None: ev(SYN)
            h.spend(1); s.pos-=1
            return F('prim',w=t.v,axis=ix[0]) if t.k=='fun' else F('hole',op=t.v,x=ix[0])
        if t is None or t.k not in ('num','quo','name','left','right',')',']'): ev(SYN)
        x=s.piece()
        if not isinstance(x,V): ev(SYN)
        h.spend(1+size(x)+sum(size(i) for i in ix if i is not None))
        ext,ps=s.chosen(x,ix)
        r=bounds(V(ext,[x.it[p] for p in ps],fill(x)))
        h.spend(size(r))
        h.leave()
        return r
    def chosen(s,x,ix):
        h=s.h
        if len(ix)!=x.rank: ev(RNK)
        if any(i is not None and not wholes(i) for i in ix): ev(DOM)
        rows=[]; ext=()
        for i,e in zip(ix,x.ext):
            if i is None: rows.append(list(range(e))); ext+=(e,)
            else: rows.append([y-h.origin for y in ints(i)]); ext+=i.ext
        if any(not 0<=y<e for r,e in zip(rows,x.ext) for y in r): ev(IDX)
        least(bad_shape(ext))
        return ext,[place(x.ext,c) for c in itertools.product(*rows)]
    def function(s,m):
        """The FUNCTION that ends with what was met."""
        if isinstance(m,V) or m is ASG: ev(SYN)
        if m.k=='hole':
            if s.pos==s.lo: ev(SYN)
            f=s.function(s.meet(False))
            return F('made',op=m.op,f=f,x=m.x)
        m=s.told(m)
        if s.kind()=='op' and s.t[s.pos-1].v=='.':
            s.h.spend(1); s.pos-=1
            if s.pos==s.lo: ev(SYN)
            f=s.function(s.meet(False))
            return F('made',op='.',f=f,x=m)
        return m
    def told(s,m):
        if m.k!='named': return m
        h=s.h; k=m.kept
        h.enter()
        r=Phrase(h,k.text,k.lo,k.hi,k.place).go()
        h.leave()
        if not isinstance(r,F): ev(SYN)
        return r
    # --- 4
    def which(s):
        if s.pos<=s.lo: return 0
        t=s.t[s.pos-1]; u=s.t[s.pos-2] if s.pos-1>s.lo else None
        if t.k=='name': return 1
        if t.k=='fun': return 3 if u is not None and u.k=='name' else 0
        if t.k==']': return 4 if t.mate>s.lo and s.t[t.mate-1].k=='name' else 0
        if t.k==')' and u.k=='name':
            return 2 if all(x.k=='name' for x in s.t[t.mate+1:s.pos-1]) else 5
        return 0
    def assign(s,v):
        h=s.h; pl=s.pl; form=s.form; t=s.t[s.pos-1]
        if form==1:
            s.pos-=1
            h.assign(pl,t.v,v)
        elif form==2:
            ns=[x.v for x in s.t[t.mate+1:s.pos-1]]
            s.pos=t.mate
            if v.count==1: its=v.it*len(ns)
            else:
                least(RNK if v.rank!=1 else 0,LEN if v.count!=len(ns) else 0)
                its=v.it
            for n,i in list(zip(ns,its))[::-1]: h.assign(pl,n,opening(i))
        elif form==3:
            n=s.t[s.pos-2].v
            s.pos-=2
            q=h.value_place(pl,n)
            r=h.apply(F('prim',w=t.v,axis=None),q.names[n],v,pl)
            h.assign(q,n,r)
        elif form==4:
            n=s.t[t.mate-1].v
            h.enter()
            ix=s.indices(t.mate+1,s.pos-1)
            s.pos=t.mate-1
            q=h.value_place(pl,n); own=q.names[n]
            ext,ps=s.chosen(own,ix)
            s.replace(q,n,own,ext,ps,v)
            h.leave()
        else:
            h.spend(1); h.enter()
            n=s.t[s.pos-2].v
            h.spend(1)
            q=h.value_place(pl,n); own=q.names[n]
            ways=V(own.ext,[N(i+1) for i in range(own.count)])
            h.spend(size(ways))
            o=t.mate
            r=Phrase(h,s.tx,o+1,s.pos-1,pl,given=ways).go()
            s.pos=o
            if r is None: ev(VAL)
            if isinstance(r,F): ev(SYN)
            h.leave()
            if not wholes(r,1,own.count): ev(DOM)
            s.replace(q,n,own,r.ext,[x-1 for x in ints(r)],v)
    def replace(s,q,n,own,ext,ps,v):
        if v.count==1: src=v.it*len(ps)
        else:
            least(RNK if v.rank!=len(ext) else LEN if v.ext!=ext else 0)
            src=v.it
        it=list(own.it)
        for p,i in zip(ps,src): it[p]=i
        s.h.assign(q,n,bounds(V(own.ext,it,fill(own))))
def lane(v):
    k=0; sg=False
    for i in (v.it if v.count else [v.fl]):
        if i[0]=='b': return 8
        if i[0]=='s': sg=True
        else:
            q=i[1]
            k=max(k,5 if q.denominator!=1 else 1 if q in(0,1) else 2 if -128<=q<=127 else 3 if -32768<=q<=32767 else 4)
    return (7 if k else 6) if sg else k
def dump(v):
    o='['+','.join(map(str,v.ext))+']'
    ps=[]
    for i in v.it:
        ps.append('%d/%d'%(i[1].numerator,i[1].denominator) if i[0]=='n' else 's%d'%i[1] if i[0]=='s' else '<'+dump(i[1])+'>')
    o+=' '.join(ps)
    f=fill(v)
    return o+'|s%d d%d l%d f'%(size(v),depth(v),lane(v))+('n%d'%f[1] if f[0]=='n' else 's%d'%f[1] if f[0]=='s' else 'b')
