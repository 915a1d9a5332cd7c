"""Prints the longest chains of calls that are no recursion (rule 11: eight) and what calls itself.
    python3 tools/calls.py [how many]     from the project's root
"""
import subprocess,re,os,sys
sys.setrecursionlimit(10000)
out='/tmp/calls'
subprocess.run('rm -rf %s; mkdir -p %s; javac -d %s src/main/java/ArrayHouse.java'%(out,out,out),shell=True,check=True)
g={}
for f in sorted(os.listdir(out)):
    cls=f[:-6]
    txt=subprocess.run(['javap','-c','-p','-cp',out,cls],capture_output=True,text=True).stdout
    cur=None
    for l in txt.split('\n'):
        m=re.match(r'  \S.*?([\w$]+)\((.*)\);$',l)
        if m and not l.strip().startswith('//'):
            name=m.group(1)
            if name==cls or name.replace('$','.')==cls.replace('$','.'): name='<init>'
            cur=cls+'.'+name; g.setdefault(cur,set())
        m=re.search(r'// Method (?:([\w$/]+)\.)?"?([\w<>$]+)"?:',l)
        if m and cur:
            c=m.group(1) or cls
            if c.startswith('ArrayHouse'): g[cur].add(c+'.'+m.group(2))
g={k:{x for x in v if x in g} for k,v in g.items()}
# tarjan
idx={};low={};st=[];on=set();comp={};comps=[]
def dfs(v):
    idx[v]=low[v]=len(idx); st.append(v); on.add(v)
    for w in g[v]:
        if w not in idx: dfs(w); low[v]=min(low[v],low[w])
        elif w in on: low[v]=min(low[v],idx[w])
    if low[v]==idx[v]:
        c=[]
        while 1:
            w=st.pop(); on.discard(w); c.append(w); comp[w]=len(comps)
            if w==v: break
        comps.append(c)
for v in g:
    if v not in idx: dfs(v)
memo={}
def longest(c):
    if c in memo: return memo[c]
    best=(0,[])
    for v in comps[c]:
        for w in g[v]:
            d=comp[w]
            if d!=c:
                r=longest(d)
                if r[0]>best[0]: best=r
    memo[c]=(best[0]+1,[c]+best[1])
    return memo[c]
res=[]
for v in g:
    res.append((longest(comp[v])[0],v))
res.sort(reverse=True)
def show(v):
    n,p=longest(comp[v])
    return n,' > '.join((comps[c][0] if len(comps[c])==1 else '{%d %s}'%(len(comps[c]),comps[c][0])).replace('ArrayHouse','') for c in p)
for n,v in res[:int(sys.argv[1]) if len(sys.argv)>1 else 12]: print(n,v,show(v)[1])
print('SCCs:')
for c in comps:
    if len(c)>1 or c[0] in g[c[0]]: print('  ',sorted(x.replace('ArrayHouse','') for x in c))
