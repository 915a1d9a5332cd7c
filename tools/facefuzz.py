"""Random calls of the face: the program against a model of promises 1 to 18 over oracle.py. From the project's root:
    mkdir -p /tmp/fuzz && javac -d /tmp/fuzz src/main/java/ArrayHouse.java tools/FaceDrive.java
    python3 tools/facefuzz.py SEED OBJECTS
"""
import os,sys,random,subprocess,struct
sys.path.insert(0,os.path.dirname(os.path.abspath(__file__)))
from oracle import *
from fuzz import G, INIT, GREAT
class Face:
    def __init__(s): s.H=House(); s.tape=b''; s.path=[]; s.at_=-1; s.st=0
    def feed(s,*a):
        if len(s.tape)+20>4000: return -1
        s.tape+=struct.pack('>5i',*a); return len(s.tape)
    def trim(s,n):
        if n<0 or n>len(s.tape): return -1
        s.tape=s.tape[:n]; return n
    def run(s):
        t=s.tape; s.tape=b''; s.path=[]
        r=s.H.run(t); s.at_=s.H.evat; s.st=s.H.spent; return r
    def at(s): return s.at_
    def steps(s): return s.st
    def shown(s): return len(s.H.out)
    def byteAt(s,i): return s.H.out[i] if 0<=i<len(s.H.out) else -1
    def name(s):
        t=s.tape; s.tape=b''
        try: n=t.decode('ascii')
        except: return None
        return n if n in s.H.house.names else None
    def view(s):
        n=s.name(); s.path=[]
        if n is None: return -1
        m=s.H.house.names[n]
        if not isinstance(m,V): return -2
        s.path=[m]; return m.rank
    def into(s,i):
        if not s.path: return -1
        v=s.path[-1]
        if not 0<=i<v.count or v.it[i][0]!='b': return -1
        s.path.append(v.it[i][1]); return s.path[-1].rank
    def back(s):
        if len(s.path)<2: return -1
        s.path.pop(); return s.path[-1].rank
    def about(s,w):
        if not s.path: return -1
        v=s.path[-1]
        return {0:v.rank,1:v.count,2:size(v),3:depth(v),4:lane(v),5:len(s.path)-1}.get(w,-1)
    def extent(s,k):
        if not s.path: return -1
        v=s.path[-1]
        return v.sh[k] if 0<=k<v.rank else -1
    def item(s,i):
        if not s.path: return None
        v=s.path[-1]
        if i==-1: return fill(v)
        return v.it[i] if 0<=i<v.count else None
    def kind(s,i):
        x=s.item(i)
        return -1 if x is None else 'nsb'.index(x[0])
    def number(s,i,b):
        x=s.item(i)
        if x is None or x[0]=='b': return 0
        if x[0]=='s': return x[1]
        return x[1].denominator if b else x[1].numerator
    def told(s,w):
        nm=s.H.house.names
        vals=[m for m in nm.values() if isinstance(m,V)]; fs=[m for m in nm.values() if not isinstance(m,V)]
        d=[len(nm),len(vals),len(fs),sum(f.len for f in fs),sum(size(v) for v in vals),s.H.origin,s.H.link,len(s.tape)]
        return d[w] if 0<=w<8 else -1
    def forget(s):
        n=s.name()
        if n is None: return -1
        m=s.H.house.names.pop(n); s.path=[]
        return 1 if isinstance(m,V) else 2
    def set(s,w,v):
        if w==0 and v in(0,1): o=s.H.origin; s.H.origin=v; return o
        if w==1 and 1<=v<=2147483646: o=s.H.link; s.H.link=v; return o
        return -1
def main(seed,n):
    r=random.Random(seed); cmds=[]; want=[]; bad=0
    for _ in range(n):
        f=Face(); g=G(r); cmds.append('NEW'); want.append(0)
        def do(*c):
            cmds.append(' '.join(map(str,c))); a=c[1:]
            want.append(getattr(f,c[0])(*a))
        def put(t):
            b=t if isinstance(t,bytes) else t.encode('latin1')
            for i in range(0,len(b),20):
                do('feed',*struct.unpack('>5i',b[i:i+20].ljust(20,bytes([r.choice([0,32,65,97])]))))
            do('trim',len(f.tape)-(-len(b))%20)
        start=len(cmds)
        while len(cmds)-start<470:
            k=r.random()
            if k<.12:
                t=' ; '.join(r.choice([lambda:r.choice(INIT),lambda:g.stmt(2),lambda:r.choice('xyzwabfg')+' := '+g.expr(2),lambda:r.choice('xyz')+' := '+r.choice(GREAT[:6]),lambda:'x := enc x',lambda:'y := y x',lambda:'z := 0 rho x'])() for _ in range(r.randint(1,4)))
                if len(t)<600: put(t); do('run')
            elif k<.14: put(r.choice(['','$','x ; )','nope',';;nope'])); do('run')
            elif k<.34: put(r.choice(['x','y','z','w','a','b','f','g','x','y','xx','','x ','x\0','\0','1','rho','X','abcdefghi'])); do('view')
            elif k<.36: put(r.choice(['x','y','z','f','q','','x ','x\0'])); do('forget')
            elif k<.55: do('into',r.choice([0,0,0,1,1,2,3,-1,1000,2147483647,-2147483648]))
            elif k<.62: do('back')
            elif k<.70: do('about',r.choice([0,1,2,3,4,5,-1,6,7]))
            elif k<.74: do('extent',r.choice([0,1,2,3,5,6,-1]))
            elif k<.79: do('kind',r.choice([0,1,2,-1,-2,5,999,1000]))
            elif k<.85: do('number',r.choice([0,1,2,-1,-2,5,999,1000]),r.choice([0,1]))
            elif k<.89: do('told',r.randint(-1,8))
            elif k<.91: do('set',r.choice([0,0,1,2,-1]),r.choice([0,1,2,-1,2147483646,2147483647,5]))
            elif k<.93: do('trim',r.choice([0,1,5,20,-1,4000,2147483647]))
            elif k<.95: do('feed',*[r.randint(-2**31,2**31-1) for _ in range(5)])
            elif k<.97: do(r.choice(['at','steps','shown']))
            elif k<.99: do('byteAt',r.choice([0,1,2,5,-1,100,7999,8000]))
            else: do(r.choice(['run','view','forget']))
    p=subprocess.run(['java','-cp','/tmp/fuzz','FaceDrive'],input='\n'.join(cmds)+'\n',capture_output=True,text=True)
    got=p.stdout.split('\n')
    if p.stderr: print(p.stderr[:500])
    for i,(c,w) in enumerate(zip(cmds,want)):
        if str(int(w))!=got[i]:
            bad+=1
            if bad<4: print('MISMATCH',i,c,'want',w,'got',got[i]); print(cmds[max(0,i-12):i+1])
    print('seed',seed,'calls',len(cmds),'bad',bad)
if __name__=='__main__': main(int(sys.argv[1]),int(sys.argv[2]))
