/-! calls whose contract says just what comes back; steady: nothing is made -/
abbrev gEq (h1 : gH) (r : Option Value) : gP := fun h r' => h = h1 ∧ r' = r
section GExact
variable {w : gW} {E : State → Prop} {al : Bool} {n : Nat} {y : gY} {mc ms : Nat} {P : gP} {cs sl : Nat} {h : gH} {pc : Nat} {L st : List Value}
theorem g_cV0 {ix : Nat} {a : Nat} {y' : gY} {as S : List Value} {ci : Nat} {fs : List Value} {r0 : vw_C} {h1 : gH} (hd : decode y.2.1 pc = .ok (.invokevirtual ix, 3)) (q : Nat) (hq : pc + 3 = q) (hc : gCV y.1.cls ix y' as.length) (hfit : gFit y y') (hM : M w gT0 al y' 0 0 h (.ref a :: as) (gEq h1 none)) (hr0 : vwCl[ci]? = some r0) (hcl : y'.1.cls = r0.1) (he : h[a]? = some (.inr (.inr (ci, fs)))) (hS : as.reverse ++ .ref a :: st = S) (hst : (st.map fun v => v.category).sum ≤ 8) (hcs : cs ≤ mc) (hsl : sl ≤ ms)
    (kk : G w E al n y mc ms P cs sl h1 q L (st)) : G w E al n y mc ms P cs sl h pc L S :=
  g_callV hd q hq hc hfit hM hr0 hcl he hS hst hcs hsl (fun h2 r hr => by
    obtain ⟨rfl, rfl⟩ := hr
    exact kk)
theorem g_cVv {ix : Nat} {a : Nat} {y' : gY} {as S : List Value} {v : Value} {ci : Nat} {fs : List Value} {r0 : vw_C} {h1 : gH} (hd : decode y.2.1 pc = .ok (.invokevirtual ix, 3)) (q : Nat) (hq : pc + 3 = q) (hc : gCV y.1.cls ix y' as.length) (hfit : gFit y y') (hM : M w gT0 al y' 0 0 h (.ref a :: as) (gEq h1 (some v))) (hr0 : vwCl[ci]? = some r0) (hcl : y'.1.cls = r0.1) (he : h[a]? = some (.inr (.inr (ci, fs)))) (hS : as.reverse ++ .ref a :: st = S) (hst : (st.map fun v => v.category).sum ≤ 8) (hcs : cs ≤ mc) (hsl : sl ≤ ms)
    (kk : G w E al n y mc ms P cs sl h1 q L (v :: st)) : G w E al n y mc ms P cs sl h pc L S :=
  g_callV hd q hq hc hfit hM hr0 hcl he hS hst hcs hsl (fun h2 r hr => by
    obtain ⟨rfl, rfl⟩ := hr
    exact kk)
theorem g_cVN0 {ix : Nat} {a : Nat} {host : String} {y' : gY} {as S : List Value} {ci : Nat} {fs : List Value} {r0 : vw_C} {h1 : gH} (hd : decode y.2.1 pc = .ok (.invokevirtual ix, 3)) (q : Nat) (hq : pc + 3 = q) (hc : gCVN y.1.cls ix y' as.length host) (hfit : gFit y y') (hM : M w gT0 al y' 0 0 h (.ref a :: as) (gEq h1 none)) (hr0 : vwCl[ci]? = some r0) (hcl : y'.1.cls = r0.1) (he : h[a]? = some (.inr (.inr (ci, fs)))) (hS : as.reverse ++ .ref a :: st = S) (hst : (st.map fun v => v.category).sum ≤ 8) (hcs : cs ≤ mc) (hsl : sl ≤ ms)
    (kk : G w E al n y mc ms P cs sl h1 q L (st)) : G w E al n y mc ms P cs sl h pc L S :=
  g_callVN hd q hq hc hfit hM hr0 hcl he hS hst hcs hsl (fun h2 r hr => by
    obtain ⟨rfl, rfl⟩ := hr
    exact kk)
theorem g_cVNv {ix : Nat} {a : Nat} {host : String} {y' : gY} {as S : List Value} {v : Value} {ci : Nat} {fs : List Value} {r0 : vw_C} {h1 : gH} (hd : decode y.2.1 pc = .ok (.invokevirtual ix, 3)) (q : Nat) (hq : pc + 3 = q) (hc : gCVN y.1.cls ix y' as.length host) (hfit : gFit y y') (hM : M w gT0 al y' 0 0 h (.ref a :: as) (gEq h1 (some v))) (hr0 : vwCl[ci]? = some r0) (hcl : y'.1.cls = r0.1) (he : h[a]? = some (.inr (.inr (ci, fs)))) (hS : as.reverse ++ .ref a :: st = S) (hst : (st.map fun v => v.category).sum ≤ 8) (hcs : cs ≤ mc) (hsl : sl ≤ ms)
    (kk : G w E al n y mc ms P cs sl h1 q L (v :: st)) : G w E al n y mc ms P cs sl h pc L S :=
  g_callVN hd q hq hc hfit hM hr0 hcl he hS hst hcs hsl (fun h2 r hr => by
    obtain ⟨rfl, rfl⟩ := hr
    exact kk)
theorem g_cS0 {ix : Nat} {y' : gY} {as S : List Value} {h1 : gH} (hd : decode y.2.1 pc = .ok (.invokestatic ix, 3)) (q : Nat) (hq : pc + 3 = q) (hc : gCS y.1.cls ix y' as.length) (hfit : gFit y y') (hM : M w gT0 al y' 0 0 h as (gEq h1 none)) (hS : as.reverse ++ st = S) (hst : (st.map fun v => v.category).sum ≤ 8) (hcs : cs ≤ mc) (hsl : sl ≤ ms)
    (kk : G w E al n y mc ms P cs sl h1 q L (st)) : G w E al n y mc ms P cs sl h pc L S :=
  g_callS hd q hq hc hfit hM hS hst hcs hsl (fun h2 r hr => by
    obtain ⟨rfl, rfl⟩ := hr
    exact kk)
theorem g_cSv {ix : Nat} {y' : gY} {as S : List Value} {v : Value} {h1 : gH} (hd : decode y.2.1 pc = .ok (.invokestatic ix, 3)) (q : Nat) (hq : pc + 3 = q) (hc : gCS y.1.cls ix y' as.length) (hfit : gFit y y') (hM : M w gT0 al y' 0 0 h as (gEq h1 (some v))) (hS : as.reverse ++ st = S) (hst : (st.map fun v => v.category).sum ≤ 8) (hcs : cs ≤ mc) (hsl : sl ≤ ms)
    (kk : G w E al n y mc ms P cs sl h1 q L (v :: st)) : G w E al n y mc ms P cs sl h pc L S :=
  g_callS hd q hq hc hfit hM hS hst hcs hsl (fun h2 r hr => by
    obtain ⟨rfl, rfl⟩ := hr
    exact kk)
theorem g_cSN0 {ix : Nat} {host : String} {y' : gY} {as S : List Value} {h1 : gH} (hd : decode y.2.1 pc = .ok (.invokestatic ix, 3)) (q : Nat) (hq : pc + 3 = q) (hc : gCSN y.1.cls ix y' as.length host) (hfit : gFit y y') (hM : M w gT0 al y' 0 0 h as (gEq h1 none)) (hS : as.reverse ++ st = S) (hst : (st.map fun v => v.category).sum ≤ 8) (hcs : cs ≤ mc) (hsl : sl ≤ ms)
    (kk : G w E al n y mc ms P cs sl h1 q L (st)) : G w E al n y mc ms P cs sl h pc L S :=
  g_callSN hd q hq hc hfit hM hS hst hcs hsl (fun h2 r hr => by
    obtain ⟨rfl, rfl⟩ := hr
    exact kk)
theorem g_cSNv {ix : Nat} {host : String} {y' : gY} {as S : List Value} {v : Value} {h1 : gH} (hd : decode y.2.1 pc = .ok (.invokestatic ix, 3)) (q : Nat) (hq : pc + 3 = q) (hc : gCSN y.1.cls ix y' as.length host) (hfit : gFit y y') (hM : M w gT0 al y' 0 0 h as (gEq h1 (some v))) (hS : as.reverse ++ st = S) (hst : (st.map fun v => v.category).sum ≤ 8) (hcs : cs ≤ mc) (hsl : sl ≤ ms)
    (kk : G w E al n y mc ms P cs sl h1 q L (v :: st)) : G w E al n y mc ms P cs sl h pc L S :=
  g_callSN hd q hq hc hfit hM hS hst hcs hsl (fun h2 r hr => by
    obtain ⟨rfl, rfl⟩ := hr
    exact kk)
theorem g_cI0 {ix : Nat} {a : Nat} {yn : MethodName} {yb : ByteArray} {yl yf yk : Nat} {as S : List Value} {h1 : gH} (hd : decode y.2.1 pc = .ok (.invokespecial ix, 3)) (q : Nat) (hq : pc + 3 = q) (hc : gCI y.1.cls ix (yn, yb, yl, none, yf, yk) as.length) (hfit : gFit y (yn, yb, yl, none, yf, yk)) (hM : M w gT0 al (yn, yb, yl, none, yf, yk) 0 0 h (.ref a :: as) (gEq h1 none)) (hS : as.reverse ++ .ref a :: st = S) (hst : (st.map fun v => v.category).sum ≤ 8) (hcs : cs ≤ mc) (hsl : sl ≤ ms)
    (kk : G w E al n y mc ms P cs sl h1 q L (st)) : G w E al n y mc ms P cs sl h pc L S :=
  g_callI hd q hq hc hfit hM hS hst hcs hsl (fun h2 r hr => by
    obtain ⟨rfl, rfl⟩ := hr
    exact kk)
theorem g_cIN0 {ix : Nat} {a : Nat} {host : String} {yn : MethodName} {yb : ByteArray} {yl yf yk : Nat} {as S : List Value} {h1 : gH} (hd : decode y.2.1 pc = .ok (.invokespecial ix, 3)) (q : Nat) (hq : pc + 3 = q) (hc : gCIN y.1.cls ix (yn, yb, yl, none, yf, yk) as.length host) (hfit : gFit y (yn, yb, yl, none, yf, yk)) (hM : M w gT0 al (yn, yb, yl, none, yf, yk) 0 0 h (.ref a :: as) (gEq h1 none)) (hS : as.reverse ++ .ref a :: st = S) (hst : (st.map fun v => v.category).sum ≤ 8) (hcs : cs ≤ mc) (hsl : sl ≤ ms)
    (kk : G w E al n y mc ms P cs sl h1 q L (st)) : G w E al n y mc ms P cs sl h pc L S :=
  g_callIN hd q hq hc hfit hM hS hst hcs hsl (fun h2 r hr => by
    obtain ⟨rfl, rfl⟩ := hr
    exact kk)
end GExact
