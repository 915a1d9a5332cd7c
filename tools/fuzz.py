"""Random texts: the program against oracle.py, or against second.py. From the project's root:
    mkdir -p /tmp/fuzz && javac -d /tmp/fuzz src/main/java/ArrayHouse.java tools/Drive.java
    python3 tools/fuzz.py SEED SESSIONS [MODE [second]]
MODE: g sentences, b balanced tokens, s token soup, B great values, C CALLS, L long loops with GUARDS, v values of all
shapes and changed texts, n values near the bounds; - for a mixture.
"""
import sys,random,subprocess,os,time
sys.path.insert(0,os.path.dirname(os.path.abspath(__file__)))
import shaped
if sys.argv[4:]==['second']: from second import *
else: from oracle import *
FN1="+ - * % | ! floor ceil not ? , rho tally depth first enc mix split enl rev tr uniq up down iota where fmt same".split()
FN2="+ - * % ^ | ! min max and or gcd lcm = /= < <= > >= ? , rho rot tr take drop rep expand iota mem find pick match without union inter part penc enco deco same".split()
class G:
    def __init__(s,r): s.r=r; s.names=['x','y','z','w','a','b']; s.depth=0; s.inb=0
    def num(s):
        r=s.r; k=r.random()
        if k<.6: return str(r.randint(0,4))
        if k<.75: return '_'+str(r.randint(1,4))
        if k<.85: return '%d'%r.randint(5,30)
        if k<.93: return '%s%dr%d'%(r.choice(['','_']),r.randint(1,9),r.randint(1,6))
        return r.choice(['2000000000','1000','999','_2000000000','123456789','_0','0r5','6r4','1r2000000000','65536','46341','100','500','1001'])
    def quoted(s):
        return "'"+''.join(s.r.choice(["a","b","c"," ","''","z"]) for _ in range(s.r.choice([0,1,1,2,2,3,4])))+"'"
    def operand(s,d):
        r=s.r; k=r.random()
        if k<.40: x=s.num()
        elif k<.50: x=s.quoted()
        elif k<.72: x=r.choice(s.names)
        elif k<.80 and s.inb: x=r.choice(['right','right','right','left'])
        elif k<.80: x=r.choice(s.names)
        elif d<=0: x=s.num()
        else: x='('+s.expr(d-1)+')'
        if r.random()<.08 and d>0:
            x+='['+s.indices(d-1)+']'
        return x
    def indices(s,d):
        n=s.r.choice([1,1,1,2,2,3])
        return ';'.join('' if s.r.random()<.2 else s.expr(d-1) if s.r.random()<.3 else ' '.join(str(s.r.randint(0,3)) for _ in range(s.r.randint(1,2))) for _ in range(n))
    def strand(s,d):
        n=s.r.choice([1,1,1,2,2,3,4])
        return ' '.join(s.operand(d) for _ in range(n))
    def prim(s,two):
        r=s.r
        return r.choice(FN2 if (two if r.random()<.93 else not two) else FN1)
    def axis(s,d):
        r=s.r
        return '['+(r.choice(['0','1','2','3','1','2','1r2','3r2','5r2','_1','x','1 2',"'a'",'(enc 1 2)','1,1','']) if r.random()<.9 else s.expr(0))+']'
    def func(s,d,two):
        r=s.r; k=r.random()
        if k<.62 or d<=0: 
            f=s.prim(two)
            if f in (',','rev','rot','rep','expand') and r.random()<.35: f+=s.axis(d)
        elif k<.72: f=s.brace(d-1)
        elif k<.78: f=r.choice(['f','g'])
        elif k<.80 and s.inb: f='self'
        elif k<.83: f='('+s.func(d-1,two)+')'
        else:
            o=r.choice(['/','/','/','\\','"','"','~','@','.','key','rank','rank','pow'])
            if two and o=='\\' and r.random()<.8: o='@'
            if not two and o in '@.' and r.random()<.9: o='"'
            t2=True if o in('/','\\','~','@','.','key') else two
            f=s.func(d-1,t2)
            if o=='.': f+=' . '+s.func(0 if r.random()<.7 else d-1,True)
            elif o in('rank','pow'): f+=' '+o+' '+(r.choice(['0','1','2','_1','3','0 1','(0 1)','(1 0)','x','(enc 1)','1 2']) if r.random()<.9 else s.operand(d-1))
            else:
                f+=' '*(o=='key')+o
                if o in '/\\' and r.random()<.3: f+=s.axis(d)
        return f
    def expr(s,d):
        r=s.r
        e=s.strand(d)
        for _ in range(r.choice([0,0,1,1,1,2,2,3] if d>0 else [0,1,1])):
            two=r.random()<.6
            f=s.func(d-1,two)
            e=' '+f+' '+e
            if two: e=s.strand(d-1)+e
            if r.random()<.06: e=s.target(d-1)+' := '+e
        return e
    def target(s,d):
        r=s.r; k=r.random()
        n=r.choice(s.names)
        if k<.5: return n
        if k<.65: return '('+' '.join(r.choice(s.names) for _ in range(r.randint(1,3)))+')'
        if k<.75: return n+' '+r.choice(FN2)
        if k<.88: return n+'['+s.indices(d)+']'
        return '('+r.choice(['2 take','rev','1 drop',', ','tr','first','3 rho','(1 0 1) rep','_2 take','same','0 take','x','1','','-', '+/', '1 +','(x) take','_1 rot','x pick'])+' '+n+')'
    def brace(s,d):
        r=s.r; s.inb+=1
        parts=[]
        for _ in range(r.choice([1,1,1,2,3])):
            k=r.random()
            if k<.15: parts.append(r.choice(['0','1','1 = right','0 = tally right','right = 0','depth right'])+' : '+s.expr(d))
            elif k<.3: parts.append(r.choice(['0','5','1 2','3 4 5','4','7','3','2','6',"''",'1','8',"'a'"])+' :: '+s.expr(d))
            elif k<.5: parts.append(s.target(d)+' := '+s.expr(d))
            elif k<.52: parts.append('')
            elif k<.56: parts.append(r.choice('fg')+' := '+s.func(d,True))
            else: parts.append(s.expr(d))
        s.inb-=1
        return '{'+r.choice([' ; ','\n',';']).join(parts)+'}'
    def stmt(s,d):
        r=s.r; k=r.random()
        if k<.35: return s.target(d)+' := '+s.expr(d)
        if k<.45: return r.choice('fg')+' := '+s.func(d,r.random()<.6)
        if k<.48: return "exe '"+s.expr(d).replace("'","''")+(" ; "+s.expr(0).replace("'","''") if r.random()<.3 else '')+"'"
        return s.expr(d)
INIT=["x := 2 3 rho iota 6","x := iota 4","y := 'abc' (1 2) 5","y := (2 2 rho 1 2 3 4) (enc 1 2) 'a'","z := 0 3 rho ''","z := ''","z := 0 rho enc 1 2 3","w := 2 2 2 rho iota 8","w := enc enc 1 2","a := 1r2 _3 4","a := 3 1 2","b := 'hello'","b := 1 0 1 1","f := +","f := {right}","f := {left , right}","g := {0 = right : 1 ; right * self right - 1}","g := f/","g := rev","x := 3 0 rho 0","y := 'ab' 'cd' 'ab'","z := 2 2 rho 'ab' 1 2 (3 4)","w := 5","a := 'q'"]
TOK=["1","2","x","y","f","g","'ab'","''","+","-","/","\\",'"',"~","@",".","key","rank","pow",",","rev","take","(",")","[","]","{","}",";",":=","left","right","self","[1]","()","[]","(x)","{right}","(f)","(+)","nope",":","::","\n","=","/=","rho","iota","mix","exe","(x y)","rank 1","pow 2","x[1]","#c","1r2","_1","foo"]
def soup(r):
    n=r.randint(1,9)
    return ' '.join(r.choice(TOK) for _ in range(n))
def balanced_soup(r,d=2):
    out=[]
    for _ in range(r.randint(1,5)):
        k=r.random()
        if k<.1 and d>0: out.append('('+balanced_soup(r,d-1)+')')
        elif k<.18 and d>0: out.append('{'+balanced_soup(r,d-1)+'}')
        elif k<.28 and d>0: out.append('['+balanced_soup(r,d-1)+']')
        else:
            t=r.choice(TOK)
            if t in '()[]{};\n' and t!='' or t in('::',':'): t='+'
            out.append(t)
    return ' '.join(out)
BIGN=['10','20','30','31','32','33','40','100','250','333','500','501','999','1000','1001','2000']
def big(r,g):
    b=lambda: r.choice(BIGN)
    s=lambda: str(r.choice([2,3,4,5,6,7,8]))
    c=r.choice([
     lambda: 'iota '+' '.join(r.choice([s(),s(),'10','20','1','0']) for _ in range(r.choice([2,3,4,6,7]))),
     lambda: b()+' rho '+g.operand(1),
     lambda: b()+' '+b()+' rho 1',
     lambda: 'x := '+b()+' rho enc '+s()+' rho '+r.choice(['1','enc 1 2',"'a'"]),
     lambda: 'x := enc enc enc '+g.operand(1)+' ; enc enc enc enc x ; enc enc enc enc enc enc x',
     lambda: 'x := (iota '+b()+') ; y := x '+r.choice(['+','*','^','/=',',','min','-'])+' '+r.choice(['x','y','1','x x','(enc x)','enc" x']),
     lambda: r.choice(['+','*','-',',','min','{left + right}','{left , right}'])+r.choice(['/','\\','"','~'])+' iota '+r.choice(['5','10','20','40','100','200']),
     lambda: '(iota '+r.choice(['5','20','31','32','40'])+') '+r.choice(['+','*','-',',','min','{left + right}','{left , right}'])+r.choice(['@','"',' . +',' . ,',' key','~'])+' iota '+r.choice(['5','20','31','32','33','40']),
     lambda: '{right , right} pow '+r.choice(['5','8','9','10','11'])+' '+g.operand(1),
     lambda: '{1 + right} pow '+r.choice(['100','2000','5000','2000000000'])+' 0',
     lambda: 'enc pow '+s()+' '+g.operand(1),
     lambda: r.choice(['+','*','{left * right + 1}'])+'/ '+b()+' rho '+g.num(),
     lambda: g.operand(1)+' '+r.choice(['+','*','-','%','^','|','!','gcd','lcm','min','deco','enco'])+' '+r.choice(['2000000000','1999999999','_2000000000','1r2000000000','2000000000r1999999999','1r1999999999','100000','44721','44722','1000000007r3','7r1000000007','30 31','13','12','34 ! 17']),
     lambda: r.choice(['take','drop','rep','rot','rho','iota','where','? ','_3 take'])+' '+g.operand(1),
     lambda: r.choice([b(),'_'+b(),s()+' '+b(),b()+' '+b()])+' '+r.choice(['take','drop','rep','rot','rho','?','enco','deco'])+' '+g.operand(2),
     lambda: 'where '+s()+' rho '+r.choice([b(),'3 0','0 1','2 0 1']),
     lambda: 'where '+s()+' '+s()+' rho '+r.choice(['3 0','0 1','2 0 1','20']),
     lambda: '('+'('*r.choice([10,37,38,39,40,41])+'1'+')'*0,
     lambda: (lambda n: '('*n+'1 + 1'+')'*n)(r.choice([5,38,39,40,41,42])),
     lambda: (lambda n: "x["*n+"1"+"]"*n)(r.choice([3,38,39,40,41,42])),
     lambda: (lambda n: '(1 rho x)'+"[1]"*n)(r.choice([3,38,39,40,41,42])),
     lambda: (lambda n: '+'+'"'*n+' 1')(r.choice([3,38,39,40,41,42])),
     lambda: (lambda n: '{'*n+'right'+'} right'*0+'}'*n+' 1')(r.choice([3,5])),
     lambda: '{0 = right : 0 ; self right - 1} '+r.choice(['10','37','38','39','40','41']),
     lambda: "{'"+"' , '"*0+"0 = right : 0 ; exe 'self right - 1'} "+r.choice(['3','12','13','14','18','19','20','21']),
     lambda: 'mix '+g.operand(2)+' '+g.operand(2)+' , enc '+s()+' '+b()+' rho 0',
     lambda: 'split '+r.choice(['0','2','3'])+' '+b()+' rho '+g.operand(1),
     lambda: s()+' '+s()+' '+s()+' rho iota '+b(),
     lambda: r.choice(['+','{left,right}','f','g',','])+'/['+r.choice(['1','2','3','0'])+'] '+s()+' '+s()+' '+s()+' rho iota 20',
     lambda: r.choice(['_3','_2','_1','0','1','2','3','4','5','6','7'])+' '+r.choice(['+','-','{left,right}',',','min','f'])+'/'+r.choice(['','[1]','[2]','[1]'])+' '+s()+' '+s()+' rho iota 20',
     lambda: 'fmt '+b()+' rho '+g.operand(1),
     lambda: b()+' rho '+g.num(),
     lambda: r.choice(['up','down','uniq'])+' '+b()+' rho '+g.operand(2)+' , ? 20 rho '+s(),
     lambda: '(? '+b()+' rho '+s()+') '+r.choice(['{tally right}','{enc right}','{left,right}',',','+/','{+/right}','without','mem','iota','union','inter','part','penc','match','find','rep'])+r.choice([' key','',''])+' iota '+b(),
     lambda: '; '.join('n%d := %d'%(k,k) for k in range(r.choice([10,55,60,61,70]))),
     lambda: '{'+'; '.join('n%d := %d'%(k,k) for k in range(r.choice([10,19,20,21])))+' ; 5} 1',
     lambda: '; '.join('h%d := %s'%(k,'{'+'1 + '*r.choice([10,100,200])+'right}') for k in range(r.choice([3,5,6]))),
    ])
    return c()
def calls(r,g):
    g.inb+=1
    d=r.choice([1,1,2])
    def body(k):
        parts=[]
        for _ in range(r.choice([1,2,2,3,4])):
            q=r.random()
            if q<.3: parts.append(r.choice(['0','5','1 2','3 4 5','4','7','3','2','6','1'])+' :: '+r.choice([g.expr(d),'v','right','x','v := 9','f := +','',"'got'","1 + 'a'",'u','left']))
            elif q<.45: parts.append(r.choice(['v','u','x','v +','x ,','(v u)','x[1]','(1 take x)','v[1]','f','(u x) := v'])+' := '+g.expr(d))
            elif q<.55: parts.append(r.choice(['0','1','right','depth right','0 = right','x','1 1','tally right'])+' : '+r.choice([g.expr(d),'v := right','f := +','','u','self 0']))
            elif q<.65 and k>0: parts.append(r.choice(['f','v','g'])+' := {'+body(k-1)+'}')
            elif q<.75 and k>0: parts.append('{'+body(k-1)+'} '+r.choice(['right','1','v','x','left']))
            elif q<.8: parts.append("exe '"+r.choice(['v := 3','right','left + 1','self 0','x[1] := 4','f 1','v ; u','f := +','1 +','v := 1 ; f := -'])+"'")
            elif q<.85: parts.append(r.choice(['f','v','g','self'])+' '+r.choice(['right','1','x','v']))
            elif q<.9: parts.append("1 + 'a'")
            else: parts.append(g.expr(d))
        return ' ; '.join(parts)
    t=r.choice(['','','1 ','x '])+'{'+body(2)+'}'+r.choice(['','','','"','/'])+' '+r.choice(['0','1','2 3','x','y'])
    g.inb-=1
    return r.choice(['','q := ','','f := g ; '])+t+r.choice(['',' ; v',' ; x ; f 1'])
GREAT=["1 1 1 1 1 1 rho enc 1 2","1000 rho 'ab'","500 rho enc 1 2","1000 rho enc 0 0 0 0 0 0 rho 0","333 rho enc 1 2","10 10 10 rho iota 1000","500 0 rho 0","1 1 rho enc 1 2","enc enc enc 1 2","1000 rho 0","31 32 rho 1r2","(iota 400) (300 rho 'x') (enc 200 rho 1)","0 rho enc 400 rho 0","'"+'q'*300+"'","1000 1 rho 1","1 1000 rho 1"]
def loops(r,g):
    g.inb+=1
    d=r.choice([0,1,1,2])
    def step():
        q=r.random()
        if q<.25: return g.expr(d)
        if q<.35: return r.choice(['x','y','a'])+'['+r.choice(['i','1','j','','1 1 1','i;i','i;i;i;i;i;i',';;;;;',';','i;'])+']'
        if q<.45: return r.choice(['x','y','a','v'])+' := '+r.choice(['+ x','x','y , x','right','y','v','rev x','x + y','(x) (y)','enc a',"'"+'s'*r.choice([1,2,300,1000])+"'"])
        if q<.52: return r.choice(['x','y'])+'['+r.choice(['i','1','','1;1',';'])+'] := '+r.choice(['right','5','y','x'])
        if q<.58: return '('+r.choice(['1 take x','rev y','1 drop a',', x','first y'])+') := '+r.choice(['right','5','y','x'])
        if q<.66: return r.choice(['0','1','right','0 = tally right',"'"+'s'*r.choice([1,200,1000])+"'",'x','y'])+' : '+r.choice(['right','x','v','y'])
        if q<.74: return r.choice(['0','5 7','4','7 3','3 5','1 2'])+' :: '+r.choice(['right','x','0','y , x','v',"'"+'t'*r.choice([1,500])+"'"])
        if q<.80: return '{'+'; '.join(step() for _ in range(r.choice([1,2])))+'} '+r.choice(['x','y','right','a'])
        if q<.84: return "exe '"+r.choice(['x := y','right , x','y','v := x ; 1',"''"+'u'*r.choice([2,400])+"'' , y",'f := ,','x x x','f x'])+"'"
        if q<.88: return r.choice(['f','g','{right , x}','{x ; right}','self'])+r.choice([' ','/','"',' rank 1 ',' rank 0 ','\\',' pow 3 ','[1]'])+r.choice(['right','x','y','a'])
        return r.choice(['mix x','mix x y','split x','x + y','+ x','- y','y , x','x , x , x','1000 rho x','x @ y','x +@ y','x , @ y','enc right','fmt x','iota 10 11','iota 1000','where y','x match y','up x','tr a','5 take x','_900 take y','x + . + y','y ,/ x','enc enc enc x','x part y','uniq x','enl x','{enc right} key x','+/ x','+\\ x','{right}/ a','2 3 rep x'])
    parts=[]
    if r.random()<.85: parts.append(r.choice(['0','0','3 4 5 7','7','5 3','4 7'])+' :: '+r.choice(['right','0','x','y','1 , 0']))
    for _ in range(r.choice([1,1,2,2,3,4])): parts.append(step())
    g.inb-=1
    ini=['%s := %s'%(n,r.choice(GREAT)) for n in 'xya' if r.random()<.7]+['i := '+r.choice(['1 1 1','1 1','iota 100','1','1000 rho 1']),'v := 0']
    if r.random()<.4: ini.append('f := '+r.choice(["+ rank '"+'a'*r.choice([2,600])+"'",'{'+step()+'}','+ rank 1','{'+step()+'} rank 0',', pow (2)','{right , '+"'"+'b'*r.choice([2,400])+"'}"]))
    n=r.choice(['5','40','200','1000','5000'])
    return ' ; '.join(ini)+' ; '+r.choice(['z := ','',''])+r.choice(['({%s} pow %s) %s','{%s}" %s rho %s','({%s} rank 0) %s rho %s','%.0s(f pow %s) %s','0 {%s}~ pow %s %s','{%s}/ %s rho %s'])%('; '.join(parts),n if True else '',r.choice(['0','x','y','1 2','i']))+r.choice(['',' ; x ; y',' ; v'])
def session(r,mode):
    g=G(r); texts=[]
    if mode=='v': return shaped.shaped(r,TOK,[lambda r:g.stmt(2),lambda r:calls(r,g)])
    if mode=='n': return shaped.bounded(r,TOK)
    ini=[i for i in INIT if r.random()<.45]; r.shuffle(ini)
    if r.random()<.8: ini=["x := 1","y := 2 3","z := 'ab'","w := 3 4","a := 2 2 rho 1 0","b := 3","f := +","g := ,"]+ini
    texts.append(' ; '.join(ini))
    sets=[]
    for k in range(r.randint(2,6)):
        if r.random()<.15: texts.append(('SET',r.choice([0,0,1]),r.choice([0,1,0,1,5,2147483646,7])))
        m=mode or r.choice(['g','g','g','g','b','s','B','B','C'])
        if m=='g': t=' ; '.join(g.stmt(r.choice([1,2,2,3])) for _ in range(r.choice([1,1,1,2,3])))
        elif m=='b': t=balanced_soup(r)
        elif m=='B': t=big(r,g)
        elif m=='C': t=calls(r,g)
        elif m=='L': t=loops(r,g)
        else: t=soup(r)
        texts.append(t[:4000])
    return texts
def expect(texts):
    h=House(); out=[]
    for t in texts:
        if isinstance(t,tuple):
            w,v=t[1],t[2]
            if w==0 and v in (0,1): o=h.origin; h.origin=v
            elif w==1 and 1<=v<=2147483646: o=h.link; h.link=v
            else: o=-1
            out.append('set %d'%o); continue
        r=h.run(t.encode('latin1'))
        nm=h.house.names
        vals=[m for m in nm.values() if isinstance(m,V)]; fs=[m for m in nm.values() if not isinstance(m,V)]
        told=[len(nm),len(vals),len(fs),sum(f.len for f in fs),sum(size(v) for v in vals),h.origin,h.link,0]
        s='run %d %d %d %s %s'%(r,h.evat,h.spent,h.out.hex(),''.join('%d,'%x for x in told))
        for c in 'xyzfgabw':
            m=nm.get(c)
            if m is None: s+=' %s-1'%c
            elif isinstance(m,V): s+=' %s%d%s'%(c,m.rank,dump(m))
            else: s+=' %s-2'%c
        out.append(s)
    return out
def encode(texts):
    o=['NEW']
    for t in texts:
        if isinstance(t,tuple): o.append('SET %d %d'%(t[1],t[2]))
        else: o.append('RUN '+t.encode('latin1').hex())
    return o
def main(seed,n,mode):
    r=random.Random(seed); sess=[]; lines=[]
    t0=time.time()
    exps=[]
    for _ in range(n):
        t=session(r,mode); sess.append(t)
        exps.append(expect(t)); lines+=encode(t)
    t1=time.time()
    p=subprocess.run(['java','-cp','/tmp/fuzz','Drive'],input='\n'.join(lines)+'\n',capture_output=True,text=True)
    got=p.stdout.split('\n')
    if p.stderr: print(p.stderr[:2000])
    k=0; bad=0; evs={}
    for t,e in zip(sess,exps):
        ok=True
        for i,x in enumerate(e):
            if x.startswith('run'): 
                c=x.split(' ')[1]; evs[c if int(c)>-10 else 'F']=evs.get(c if int(c)>-10 else 'F',0)+1
            if ok and got[k]!=x:
                ok=False; bad+=1
                if bad<=6:
                    print('=== MISMATCH seed',seed)
                    for q in t[:i+1]: print('   ',repr(q))
                    j=next((j for j,(p1,p2) in enumerate(zip(x,got[k])) if p1!=p2),min(len(x),len(got[k]))); j=max(0,j-60); print('  want',(x[:40],x[j:j+200])); print('  got ',(got[k][:40],got[k][j:j+200]))
            k+=1
    print('seed',seed,'sessions',n,'bad',bad,'events',dict(sorted(evs.items())),'oracle %.1fs'%(t1-t0))
    return bad
if __name__=='__main__':
    seed=int(sys.argv[1]); n=int(sys.argv[2]); mode=sys.argv[3] if len(sys.argv)>3 and sys.argv[3]!='-' else None
    main(seed,n,mode)
