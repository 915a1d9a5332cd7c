"""More random texts for fuzz.py: values of all shapes with arguments that might do for each function, scopes, texts in
which a token was changed (shaped), and values near the bounds (bounded).
"""
import re
TOKRE=re.compile(r"'(?:[^'\n]|'')*'|[a-z][a-z0-9]*|_?[0-9]+(?:r[0-9]+)?|:=|::|/=|<=|>=|\n|[^ ]")
class H:
    def __init__(s,r,tokens): s.r=r; s.tokens=tokens; s.scope=[]
    def shape(s,mx=4):
        r=s.r
        return [r.choice([0,1,1,2,2,3,3,4]) if r.random()<.9 else r.choice([5,6,7,10]) for _ in range(r.choice([0,1,1,1,2,2,2,3,3,4,5,6][:4+2*mx]))]
    def scal(s):
        r=s.r; k=r.random()
        if k<.5: return str(r.randint(0,5))
        if k<.6: return '_%d'%r.randint(1,5)
        if k<.7: return '%s%dr%d'%(r.choice(['','_']),r.randint(1,9),r.randint(2,6))
        if k<.85: return "'%s'"%r.choice('abc z')
        return r.choice(['2000000000','_2000000000','1r2000000000','127','128','_128','_129','32767','32768','_32768','_32769','40000','12','13'])
    def simple(s,d=2):
        """A text that makes a value."""
        r=s.r; k=r.random()
        if d<=0 or k<.2: return s.scal()
        if k<.3: return "'%s'"%''.join(r.choice('abc z') for _ in range(r.choice([0,2,3,4,5])))
        if k<.6:
            sh=s.shape(); n=1
            for e in sh: n*=e
            items=[s.item(d-1) for _ in range(r.choice([1,2,3,min(max(n,1),6)]))]
            return '(%s rho %s)'%(' '.join(map(str,sh)) if sh else "''",' '.join(items))
        if k<.7: return '(iota %d)'%r.randint(0,6)
        if k<.8: return '(enc %s)'%s.simple(d-1)
        if k<.9: return '('+' '.join(s.item(d-1) for _ in range(r.randint(2,4)))+')'
        if k<.95: return '(%s rho 0 1 2)'%' '.join(map(str,s.shape()+[1]))
        return '(0 take %s)'%s.simple(d-1)
    def item(s,d):
        r=s.r
        return s.scal() if r.random()<.7 or d<=0 else s.simple(d)
    def ints(s,lo,hi,n=None):
        r=s.r
        n=n or r.choice([1,1,1,2,2,3,4])
        return ' '.join(str(x) if x>=0 else '_%d'%-x for x in (r.randint(lo,hi) for _ in range(n)))
    def val(s):
        r=s.r
        return r.choice('xyzwabc') if r.random()<.7 else s.simple(2)
    def bits(s): return ' '.join(s.r.choice('01') for _ in range(s.r.randint(1,5)))
    def fn1(s,d=1):
        r=s.r; k=r.random()
        if k<.5 or d<=0:
            f=r.choice("+ - * % | ! floor ceil not ? , rho tally depth first enc mix split enl rev tr uniq up down iota where fmt same".split())
            if f=='rev' and r.random()<.4: f+='[%d]'%r.randint(0,3)
            return f
        if k<.6: return '{'+s.body(d-1)+'}'
        return r.choice([s.fn2(d-1)+'/',s.fn2(d-1)+'/[%d]'%r.randint(0,3),s.fn2(d-1)+'\\',s.fn2(d-1)+'\\[%d]'%r.randint(0,3),s.fn1(d-1)+'"',s.fn2(d-1)+'~',s.fn2(d-1)+' key',s.fn1(d-1)+' rank %s'%r.choice(['0','1','2','3','_1','_2']),s.fn1(d-1)+' pow %d'%r.randint(0,3),'('+s.fn1(d-1)+')','f','self' if s.scope else 'f'])
    def fn2(s,d=1):
        r=s.r; k=r.random()
        if k<.6 or d<=0:
            f=r.choice("+ - * % ^ | ! min max and or gcd lcm = /= < <= > >= ? , , rho rot tr take drop rep expand iota mem find pick match without union inter part penc enco deco same".split())
            if f in (',','rot','rep','expand') and r.random()<.4: f+='[%s]'%r.choice(['0','1','2','3','1r2','3r2','_1r2','5r2','7r2'])
            return f
        if k<.7: return '{'+s.body(d-1)+'}'
        return r.choice([s.fn2(d-1)+'/',s.fn2(d-1)+'"',s.fn2(d-1)+'"',s.fn2(d-1)+'~',s.fn2(d-1)+' @',s.fn2(d-1)+'.'+s.fn2(0),s.fn2(d-1)+' key',s.fn2(d-1)+' rank %s'%r.choice(['0','1','2','_1','(0 1)','(1 0)','(1 2)','(_1 1)']),s.fn2(d-1)+' pow %d'%r.randint(0,2),'('+s.fn2(d-1)+')','g'])
    def arg2(s,f):
        """A left argument that might do for f."""
        r=s.r
        if r.random()<.2: return s.val()
        f=f.split('[')[0]
        if f=='rho': return ' '.join(map(str,s.shape())) or "''"
        if f in('take','drop'): return s.ints(-4,4)
        if f in('rot',): return r.choice([s.ints(-5,5,1),'(%s rho %s)'%(' '.join(map(str,s.shape(2))) or "''",s.ints(-3,3))])
        if f=='tr': return s.ints(0,3)
        if f=='rep': return s.ints(-2,3)
        if f=='expand': return s.bits()
        if f=='part': return s.ints(0,3,r.randint(1,6))
        if f=='penc': return s.bits()
        if f=='pick': return r.choice([s.ints(0,3),'(enc %s)'%s.ints(0,2),'(%s) %s'%(s.ints(0,2),s.ints(0,2)),"(enc '')",s.ints(0,2)+' , enc '+s.ints(1,2)])
        if f=='iota': return ', '+s.val()
        if f in('enco','deco'): return s.ints(-3,9)
        if f=='?': return str(r.randint(0,6))
        return s.val()
    def expr(s,d=2):
        r=s.r
        e=s.val() if r.random()<.8 else s.val()+' '+s.val()
        for _ in range(r.choice([0,1,1,2,2,3])):
            if r.random()<.12: e='(%s)'%e
            if r.random()<.1: e='(%s)[%s]'%(e,';'.join(r.choice(['',s.ints(0,3),'1','1 1']) for _ in range(r.choice([1,1,2,2,3]))))
            k=r.random()
            if k<.45: e=s.fn1(d-1)+' '+e
            elif k<.93:
                f=s.fn2(d-1); a=s.arg2(f)
                e='%s %s %s'%(a if re.match(r'^[^ ]+$',a) or r.random()<.5 else '('+a+')',f,e)
            else: e=s.target()+' := '+e
        return e
    def target(s):
        r=s.r; n=r.choice('xyzwabc'); k=r.random()
        if k<.4: return n
        if k<.5: return '(%s)'%' '.join(r.choice('xyzwabc') for _ in range(r.randint(1,3)))
        if k<.6: return n+' '+s.fn2(0).split('[')[0]
        if k<.8: return n+'['+';'.join(r.choice(['',s.ints(0,3),'1','1 2','2']) for _ in range(r.choice([1,1,2,2,3])))+']'
        f=r.choice(['1','2']); 
        if f=='1': return '(%s %s)'%(s.fn1(1),n)
        g=s.fn2(1)
        return '(%s %s %s)'%(s.arg2(g),g,n)
    def body(s,d=1):
        r=s.r; s.scope.append(1); ps=[]
        for _ in range(r.choice([1,1,1,2,2,3,4])):
            k=r.random()
            if k<.12: ps.append('%s : %s'%(r.choice(['0 = tally right','0','1','1 = depth right','0 = right','left match right',s.expr(0)]),s.bexpr(d)))
            elif k<.25: ps.append('%s :: %s'%(r.choice(['0','5','3 4','7','1 2','2','6 5','%s'%s.ints(0,8)]),s.bexpr(d)))
            elif k<.45: ps.append(s.target()+' := '+s.bexpr(d))
            elif k<.5: ps.append('%s := %s'%(r.choice('fgh'),r.choice([s.fn1(d),s.fn2(d)])))
            elif k<.53: ps.append("exe '%s'"%(s.target()+' := '+s.bexpr(0)).replace("'","''"))
            else: ps.append(s.bexpr(d))
        s.scope.pop()
        return r.choice([' ; ','\n']).join(ps)
    def bexpr(s,d):
        r=s.r; e=s.expr(d)
        if r.random()<.6:
            n=r.choice(['right','right','right','left'])
            e=re.sub(r'\b[xyz]\b',n,e,count=r.randint(1,3))
        return e
    def stmt(s):
        r=s.r; k=r.random()
        if k<.3: return s.target()+' := '+s.expr()
        if k<.38: return '%s := %s'%(r.choice('fgh'),r.choice([s.fn1(2),s.fn2(2)]))
        if k<.42: return "exe '%s'"%s.expr(1).replace("'","''")
        return s.expr()
    def mutate(s,t):
        r=s.r; tk=TOKRE.findall(t)
        for _ in range(r.choice([1,1,2,3])):
            if not tk: break
            i=r.randrange(len(tk)); k=r.random()
            if k<.3: del tk[i]
            elif k<.6: tk.insert(i,r.choice(s.tokens+tk))
            elif k<.8: tk[i]=r.choice(s.tokens+tk)
            else:
                j=r.randrange(len(tk)); tk[i],tk[j]=tk[j],tk[i]
        return r.choice([' ',' ','']).join(tk)
BIG=["iota 1000","iota 999","1000 rho 'ab c'","500 rho enc 1","31 32 rho iota 50","32 31 rho 'abc'","10 10 10 rho iota 7","333 rho enc 1 2","250 rho enc 1 2 3","200 2 rho 1 2","2 2 2 2 2 2 rho iota 64","3 3 3 3 3 3 rho iota 5","5 5 5 5 1 1 rho 3","1000 1 rho 1","1 1000 rho 2","0 1000 rho 3","1000 0 rho 'a'","500 0 rho enc 1 2","(iota 400) (300 rho 'x') (200 rho enc 1 2)","enc enc enc enc enc enc 1 2","enc enc enc enc enc enc enc 1 2","enc enc enc enc enc 990 rho 0","(enc enc enc 1 2) (enc 3 4) 5","iota 15 22","iota 6 6 6","iota 4 4 4 4","split 31 31 rho 1","split 500 1 rho enc 1 2","1 rho enc 998 rho 1","(500 rho 1) (498 rho 2)","0 rho enc 500 rho 1","0 take enc enc 900 rho 2","where 20 30 rho 0 0 1","{0 0 0 rho right}\" iota 100","'"+'q'*999+"'","'"+'it''s'*150+"'","1000 rho 1r3","600 rho 2000000000 1","_1000 rho 1","up ? 500 rho 100","? 900 rho 50","100 10 rho _5 5","7 142 rho 1","142 7 rho 1","(31 31 rho 1) (2 2 rho 'a') (enc 5 rho enc 6)"]
class B(H):
    def simple(s,d=2):
        r=s.r
        if r.random()<.35: return '(%s)'%r.choice(BIG)
        return H.simple(s,d)
    def ints(s,lo,hi,n=None):
        r=s.r
        if r.random()<.2: return ' '.join(str(r.choice([0,1,2,5,9,10,30,31,32,33,100,333,500,999,1000,1001])) if r.random()<.8 else '_%d'%r.choice([1,30,500,1000,1001]) for _ in range(n or r.choice([1,1,2,3])))
        return H.ints(s,lo,hi,n)
    def wrap(s,t):
        r=s.r; k=r.random()
        if k<.15:
            n=r.choice([1,2,5,36,37,38,39,40,41]); return '('*n+t+')'*n
        if k<.25:
            n=r.choice([2,4,6,7,8,9]); return 'enc '*n+'('+t+')'
        if k<.35: return '{0 = right : %s ; self right - 1} %d'%(t,r.choice([3,20,36,37,38,39,40]))
        if k<.42: return '({%s} pow %d) %s'%(s.bexpr(1),r.choice([2,10,100,1000]),s.val())
        if k<.5: return '%s%s %s'%(s.fn2(1),'"'*r.choice([1,2,8,20,37,38,39,40]),t)
        return t
def shaped(r,tokens,others):
    """others make texts, too; some are changed."""
    h=H(r,tokens)
    ts=[' ; '.join('%s := %s'%(n,h.simple(3)) for n in 'xyzwabc')+' ; f := %s ; g := %s'%(h.fn1(1),h.fn2(1))]
    for _ in range(r.randint(3,9)):
        if r.random()<.2: ts.append(('SET',0,r.choice([0,1])))
        k=r.random()
        if k<.6: t=' ; '.join(h.stmt() for _ in range(r.choice([1,1,2])))
        elif k<.8: t=h.mutate(h.stmt())
        else: t=h.mutate(r.choice(others)(r))
        ts.append(t[:4000])
    return ts
def bounded(r,tokens):
    h=B(r,tokens)
    ts=[' ; '.join('%s := %s'%(n,h.simple(2)) for n in 'xyzwabc')+' ; f := %s ; g := %s'%(h.fn1(1),h.fn2(1))]
    for _ in range(r.randint(3,9)):
        if r.random()<.1: ts.append(('SET',0,r.choice([0,1])))
        parts=[h.stmt() for _ in range(r.choice([1,1,2]))]
        t=' ; '.join(p if ':=' in p else h.wrap(p) for p in parts)
        if r.random()<.3: t=r.choice(BIG)+' ; '+t
        if r.random()<.2: t='{%s :: %s ; %s} %s'%(r.choice(['0','7','5 7','3 4']),h.val(),t,h.val())
        ts.append(t[:4000])
    return ts
