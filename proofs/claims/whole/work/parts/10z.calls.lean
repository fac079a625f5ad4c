/-! CALLS BY ARITY AND ANSWER; numbers as nI -/
section JR7
variable {G : jG} {own : String} {cc : ByteArray} {nL : Nat} {ini : Bool} {d : Nat} {Q : Option Value → jH → Prop} {ac sc : Nat} {pc : Nat} {lo : List (Option Value)} {st : List Value} {h h' : jH} {x : Value}
variable {y : MethodName} {cc' : ByteArray} {nL' d' mc ms idx : Nat} {ret' : Option FieldType}
theorem j_cV0r {a ci : Nat} (hd : decode cc pc = .ok (.invokevirtual idx, 3)) (hM' : MT G y cc' nL' ret' d' mc ms (.ref a :: []) h (some x) h') (hl : Cond.methodLink own idx y ∈ jTs) (hy : jMY y cc' nL' ret' 0) (hi : Cond.instanceMethod y ∈ jTs ∧ Cond.selects y.cls y y ∈ jTs) (ho : jO h.1 h.2.1 a ci) (hc0 : vwCl[ci]?.map (fun q => q.1) = some y.cls) (hdd : d' + 1 ≤ d) (hm : nL' ≤ 45) (hst : (st.map fun v => v.category).sum ≤ 8) (k : J G own cc nL ini d Q ac sc h' (pc + 3) lo (x :: st)) : J G own cc nL ini d Q (ac + mc) (sc + ms) h pc lo (.ref a :: st) := j_callV0 hd hM' hl hy hi ho hc0 hdd hm hst k
theorem j_cV0v {a ci : Nat} (hd : decode cc pc = .ok (.invokevirtual idx, 3)) (hM' : MT G y cc' nL' ret' d' mc ms (.ref a :: []) h none h') (hl : Cond.methodLink own idx y ∈ jTs) (hy : jMY y cc' nL' ret' 0) (hi : Cond.instanceMethod y ∈ jTs ∧ Cond.selects y.cls y y ∈ jTs) (ho : jO h.1 h.2.1 a ci) (hc0 : vwCl[ci]?.map (fun q => q.1) = some y.cls) (hdd : d' + 1 ≤ d) (hm : nL' ≤ 45) (hst : (st.map fun v => v.category).sum ≤ 8) (k : J G own cc nL ini d Q ac sc h' (pc + 3) lo st) : J G own cc nL ini d Q (ac + mc) (sc + ms) h pc lo (.ref a :: st) := j_callV0 hd hM' hl hy hi ho hc0 hdd hm hst k
theorem j_cI0v {a : Nat} (hd : decode cc pc = .ok (.invokespecial idx, 3)) (hM' : MT G y cc' nL' none d' mc ms (.ref a :: []) h none h') (hl : Cond.methodLink own idx y ∈ jTs) (hy : jMY y cc' nL' none 0) (hi : Cond.instanceMethod y ∈ jTs) (hyn : y.name = "<init>") (hdd : d' + 1 ≤ d) (hm : nL' ≤ 45) (hst : (st.map fun v => v.category).sum ≤ 8) (k : J G own cc nL ini d Q ac sc h' (pc + 3) lo st) : J G own cc nL ini d Q (ac + mc) (sc + ms) h pc lo (.ref a :: st) := j_callI0 hd hM' hl hy hi hyn hdd hm hst k
theorem j_cIN0v {a : Nat} (hd : decode cc pc = .ok (.invokespecial idx, 3)) (hM' : MT G y cc' nL' none d' mc ms (.ref a :: []) h none h') {host : String} (hl : ∀ s : State, jS G s → va_Nw (.methodLinkNest own idx y host) s) (hy : jMY y cc' nL' none 0) (hi : Cond.instanceMethod y ∈ jTs) (hyn : y.name = "<init>") (hdd : d' + 1 ≤ d) (hm : nL' ≤ 45) (hst : (st.map fun v => v.category).sum ≤ 8) (k : J G own cc nL ini d Q ac sc h' (pc + 3) lo st) : J G own cc nL ini d Q (ac + mc) (sc + ms) h pc lo (.ref a :: st) := j_callIN0 hd hM' hl hy hi hyn hdd hm hst k
theorem j_cV1r {a ci : Nat} {x1 : Value} (hd : decode cc pc = .ok (.invokevirtual idx, 3)) (hM' : MT G y cc' nL' ret' d' mc ms (.ref a :: [x1]) h (some x) h') (hl : Cond.methodLink own idx y ∈ jTs) (hy : jMY y cc' nL' ret' 1) (hi : Cond.instanceMethod y ∈ jTs ∧ Cond.selects y.cls y y ∈ jTs) (ho : jO h.1 h.2.1 a ci) (hc0 : vwCl[ci]?.map (fun q => q.1) = some y.cls) (hdd : d' + 1 ≤ d) (hm : nL' ≤ 45) (hst : (st.map fun v => v.category).sum ≤ 8) (k : J G own cc nL ini d Q ac sc h' (pc + 3) lo (x :: st)) : J G own cc nL ini d Q (ac + mc) (sc + ms) h pc lo (x1 :: .ref a :: st) := j_callV1 hd hM' hl hy hi ho hc0 hdd hm hst k
theorem j_cS1r {x1 : Value} (hd : decode cc pc = .ok (.invokestatic idx, 3)) (hM' : MT G y cc' nL' ret' d' mc ms [x1] h (some x) h') (hl : Cond.methodLink own idx y ∈ jTs) (hy : jMY y cc' nL' ret' 1) (hi : Cond.static y ∈ jTs) (hdd : d' + 1 ≤ d) (hm : nL' ≤ 45) (hst : (st.map fun v => v.category).sum ≤ 8) (k : J G own cc nL ini d Q ac sc h' (pc + 3) lo (x :: st)) : J G own cc nL ini d Q (ac + mc) (sc + ms) h pc lo (x1 :: st) := j_callS1 hd hM' hl hy hi hdd hm hst k
theorem j_cV1v {a ci : Nat} {x1 : Value} (hd : decode cc pc = .ok (.invokevirtual idx, 3)) (hM' : MT G y cc' nL' ret' d' mc ms (.ref a :: [x1]) h none h') (hl : Cond.methodLink own idx y ∈ jTs) (hy : jMY y cc' nL' ret' 1) (hi : Cond.instanceMethod y ∈ jTs ∧ Cond.selects y.cls y y ∈ jTs) (ho : jO h.1 h.2.1 a ci) (hc0 : vwCl[ci]?.map (fun q => q.1) = some y.cls) (hdd : d' + 1 ≤ d) (hm : nL' ≤ 45) (hst : (st.map fun v => v.category).sum ≤ 8) (k : J G own cc nL ini d Q ac sc h' (pc + 3) lo st) : J G own cc nL ini d Q (ac + mc) (sc + ms) h pc lo (x1 :: .ref a :: st) := j_callV1 hd hM' hl hy hi ho hc0 hdd hm hst k
theorem j_cS1v {x1 : Value} (hd : decode cc pc = .ok (.invokestatic idx, 3)) (hM' : MT G y cc' nL' ret' d' mc ms [x1] h none h') (hl : Cond.methodLink own idx y ∈ jTs) (hy : jMY y cc' nL' ret' 1) (hi : Cond.static y ∈ jTs) (hdd : d' + 1 ≤ d) (hm : nL' ≤ 45) (hst : (st.map fun v => v.category).sum ≤ 8) (k : J G own cc nL ini d Q ac sc h' (pc + 3) lo st) : J G own cc nL ini d Q (ac + mc) (sc + ms) h pc lo (x1 :: st) := j_callS1 hd hM' hl hy hi hdd hm hst k
theorem j_cI1v {a : Nat} {x1 : Value} (hd : decode cc pc = .ok (.invokespecial idx, 3)) (hM' : MT G y cc' nL' none d' mc ms (.ref a :: [x1]) h none h') (hl : Cond.methodLink own idx y ∈ jTs) (hy : jMY y cc' nL' none 1) (hi : Cond.instanceMethod y ∈ jTs) (hyn : y.name = "<init>") (hdd : d' + 1 ≤ d) (hm : nL' ≤ 45) (hst : (st.map fun v => v.category).sum ≤ 8) (k : J G own cc nL ini d Q ac sc h' (pc + 3) lo st) : J G own cc nL ini d Q (ac + mc) (sc + ms) h pc lo (x1 :: .ref a :: st) := j_callI1 hd hM' hl hy hi hyn hdd hm hst k
theorem j_cIN1v {a : Nat} {x1 : Value} (hd : decode cc pc = .ok (.invokespecial idx, 3)) (hM' : MT G y cc' nL' none d' mc ms (.ref a :: [x1]) h none h') {host : String} (hl : ∀ s : State, jS G s → va_Nw (.methodLinkNest own idx y host) s) (hy : jMY y cc' nL' none 1) (hi : Cond.instanceMethod y ∈ jTs) (hyn : y.name = "<init>") (hdd : d' + 1 ≤ d) (hm : nL' ≤ 45) (hst : (st.map fun v => v.category).sum ≤ 8) (k : J G own cc nL ini d Q ac sc h' (pc + 3) lo st) : J G own cc nL ini d Q (ac + mc) (sc + ms) h pc lo (x1 :: .ref a :: st) := j_callIN1 hd hM' hl hy hi hyn hdd hm hst k
theorem j_cV2r {a ci : Nat} {x1 x2 : Value} (hd : decode cc pc = .ok (.invokevirtual idx, 3)) (hM' : MT G y cc' nL' ret' d' mc ms (.ref a :: [x1, x2]) h (some x) h') (hl : Cond.methodLink own idx y ∈ jTs) (hy : jMY y cc' nL' ret' 2) (hi : Cond.instanceMethod y ∈ jTs ∧ Cond.selects y.cls y y ∈ jTs) (ho : jO h.1 h.2.1 a ci) (hc0 : vwCl[ci]?.map (fun q => q.1) = some y.cls) (hdd : d' + 1 ≤ d) (hm : nL' ≤ 45) (hst : (st.map fun v => v.category).sum ≤ 8) (k : J G own cc nL ini d Q ac sc h' (pc + 3) lo (x :: st)) : J G own cc nL ini d Q (ac + mc) (sc + ms) h pc lo (x2 :: x1 :: .ref a :: st) := j_callV2 hd hM' hl hy hi ho hc0 hdd hm hst k
theorem j_cS2r {x1 x2 : Value} (hd : decode cc pc = .ok (.invokestatic idx, 3)) (hM' : MT G y cc' nL' ret' d' mc ms [x1, x2] h (some x) h') (hl : Cond.methodLink own idx y ∈ jTs) (hy : jMY y cc' nL' ret' 2) (hi : Cond.static y ∈ jTs) (hdd : d' + 1 ≤ d) (hm : nL' ≤ 45) (hst : (st.map fun v => v.category).sum ≤ 8) (k : J G own cc nL ini d Q ac sc h' (pc + 3) lo (x :: st)) : J G own cc nL ini d Q (ac + mc) (sc + ms) h pc lo (x2 :: x1 :: st) := j_callS2 hd hM' hl hy hi hdd hm hst k
theorem j_cV2v {a ci : Nat} {x1 x2 : Value} (hd : decode cc pc = .ok (.invokevirtual idx, 3)) (hM' : MT G y cc' nL' ret' d' mc ms (.ref a :: [x1, x2]) h none h') (hl : Cond.methodLink own idx y ∈ jTs) (hy : jMY y cc' nL' ret' 2) (hi : Cond.instanceMethod y ∈ jTs ∧ Cond.selects y.cls y y ∈ jTs) (ho : jO h.1 h.2.1 a ci) (hc0 : vwCl[ci]?.map (fun q => q.1) = some y.cls) (hdd : d' + 1 ≤ d) (hm : nL' ≤ 45) (hst : (st.map fun v => v.category).sum ≤ 8) (k : J G own cc nL ini d Q ac sc h' (pc + 3) lo st) : J G own cc nL ini d Q (ac + mc) (sc + ms) h pc lo (x2 :: x1 :: .ref a :: st) := j_callV2 hd hM' hl hy hi ho hc0 hdd hm hst k
theorem j_cS2v {x1 x2 : Value} (hd : decode cc pc = .ok (.invokestatic idx, 3)) (hM' : MT G y cc' nL' ret' d' mc ms [x1, x2] h none h') (hl : Cond.methodLink own idx y ∈ jTs) (hy : jMY y cc' nL' ret' 2) (hi : Cond.static y ∈ jTs) (hdd : d' + 1 ≤ d) (hm : nL' ≤ 45) (hst : (st.map fun v => v.category).sum ≤ 8) (k : J G own cc nL ini d Q ac sc h' (pc + 3) lo st) : J G own cc nL ini d Q (ac + mc) (sc + ms) h pc lo (x2 :: x1 :: st) := j_callS2 hd hM' hl hy hi hdd hm hst k
theorem j_cV3r {a ci : Nat} {x1 x2 x3 : Value} (hd : decode cc pc = .ok (.invokevirtual idx, 3)) (hM' : MT G y cc' nL' ret' d' mc ms (.ref a :: [x1, x2, x3]) h (some x) h') (hl : Cond.methodLink own idx y ∈ jTs) (hy : jMY y cc' nL' ret' 3) (hi : Cond.instanceMethod y ∈ jTs ∧ Cond.selects y.cls y y ∈ jTs) (ho : jO h.1 h.2.1 a ci) (hc0 : vwCl[ci]?.map (fun q => q.1) = some y.cls) (hdd : d' + 1 ≤ d) (hm : nL' ≤ 45) (hst : (st.map fun v => v.category).sum ≤ 8) (k : J G own cc nL ini d Q ac sc h' (pc + 3) lo (x :: st)) : J G own cc nL ini d Q (ac + mc) (sc + ms) h pc lo (x3 :: x2 :: x1 :: .ref a :: st) := j_callV3 hd hM' hl hy hi ho hc0 hdd hm hst k
theorem j_cS3r {x1 x2 x3 : Value} (hd : decode cc pc = .ok (.invokestatic idx, 3)) (hM' : MT G y cc' nL' ret' d' mc ms [x1, x2, x3] h (some x) h') (hl : Cond.methodLink own idx y ∈ jTs) (hy : jMY y cc' nL' ret' 3) (hi : Cond.static y ∈ jTs) (hdd : d' + 1 ≤ d) (hm : nL' ≤ 45) (hst : (st.map fun v => v.category).sum ≤ 8) (k : J G own cc nL ini d Q ac sc h' (pc + 3) lo (x :: st)) : J G own cc nL ini d Q (ac + mc) (sc + ms) h pc lo (x3 :: x2 :: x1 :: st) := j_callS3 hd hM' hl hy hi hdd hm hst k
theorem j_cV3v {a ci : Nat} {x1 x2 x3 : Value} (hd : decode cc pc = .ok (.invokevirtual idx, 3)) (hM' : MT G y cc' nL' ret' d' mc ms (.ref a :: [x1, x2, x3]) h none h') (hl : Cond.methodLink own idx y ∈ jTs) (hy : jMY y cc' nL' ret' 3) (hi : Cond.instanceMethod y ∈ jTs ∧ Cond.selects y.cls y y ∈ jTs) (ho : jO h.1 h.2.1 a ci) (hc0 : vwCl[ci]?.map (fun q => q.1) = some y.cls) (hdd : d' + 1 ≤ d) (hm : nL' ≤ 45) (hst : (st.map fun v => v.category).sum ≤ 8) (k : J G own cc nL ini d Q ac sc h' (pc + 3) lo st) : J G own cc nL ini d Q (ac + mc) (sc + ms) h pc lo (x3 :: x2 :: x1 :: .ref a :: st) := j_callV3 hd hM' hl hy hi ho hc0 hdd hm hst k
theorem j_cS3v {x1 x2 x3 : Value} (hd : decode cc pc = .ok (.invokestatic idx, 3)) (hM' : MT G y cc' nL' ret' d' mc ms [x1, x2, x3] h none h') (hl : Cond.methodLink own idx y ∈ jTs) (hy : jMY y cc' nL' ret' 3) (hi : Cond.static y ∈ jTs) (hdd : d' + 1 ≤ d) (hm : nL' ≤ 45) (hst : (st.map fun v => v.category).sum ≤ 8) (k : J G own cc nL ini d Q ac sc h' (pc + 3) lo st) : J G own cc nL ini d Q (ac + mc) (sc + ms) h pc lo (x3 :: x2 :: x1 :: st) := j_callS3 hd hM' hl hy hi hdd hm hst k
theorem j_cSN3r {host : String} {x1 x2 x3 : Value} (hd : decode cc pc = .ok (.invokestatic idx, 3)) (hM' : MT G y cc' nL' ret' d' mc ms [x1, x2, x3] h (some x) h') (hl : ∀ s : State, jS G s → va_Nw (.methodLinkNest own idx y host) s) (hy : jMY y cc' nL' ret' 3) (hi : Cond.static y ∈ jTs) (hdd : d' + 1 ≤ d) (hm : nL' ≤ 45) (hst : (st.map fun v => v.category).sum ≤ 8) (k : J G own cc nL ini d Q ac sc h' (pc + 3) lo (x :: st)) : J G own cc nL ini d Q (ac + mc) (sc + ms) h pc lo (x3 :: x2 :: x1 :: st) := j_callSN3 hd hM' hl hy hi hdd hm hst k
theorem j_cV4r {a ci : Nat} {x1 x2 x3 x4 : Value} (hd : decode cc pc = .ok (.invokevirtual idx, 3)) (hM' : MT G y cc' nL' ret' d' mc ms (.ref a :: [x1, x2, x3, x4]) h (some x) h') (hl : Cond.methodLink own idx y ∈ jTs) (hy : jMY y cc' nL' ret' 4) (hi : Cond.instanceMethod y ∈ jTs ∧ Cond.selects y.cls y y ∈ jTs) (ho : jO h.1 h.2.1 a ci) (hc0 : vwCl[ci]?.map (fun q => q.1) = some y.cls) (hdd : d' + 1 ≤ d) (hm : nL' ≤ 45) (hst : (st.map fun v => v.category).sum ≤ 8) (k : J G own cc nL ini d Q ac sc h' (pc + 3) lo (x :: st)) : J G own cc nL ini d Q (ac + mc) (sc + ms) h pc lo (x4 :: x3 :: x2 :: x1 :: .ref a :: st) := j_callV4 hd hM' hl hy hi ho hc0 hdd hm hst k
theorem j_cS4r {x1 x2 x3 x4 : Value} (hd : decode cc pc = .ok (.invokestatic idx, 3)) (hM' : MT G y cc' nL' ret' d' mc ms [x1, x2, x3, x4] h (some x) h') (hl : Cond.methodLink own idx y ∈ jTs) (hy : jMY y cc' nL' ret' 4) (hi : Cond.static y ∈ jTs) (hdd : d' + 1 ≤ d) (hm : nL' ≤ 45) (hst : (st.map fun v => v.category).sum ≤ 8) (k : J G own cc nL ini d Q ac sc h' (pc + 3) lo (x :: st)) : J G own cc nL ini d Q (ac + mc) (sc + ms) h pc lo (x4 :: x3 :: x2 :: x1 :: st) := j_callS4 hd hM' hl hy hi hdd hm hst k
theorem j_cV4v {a ci : Nat} {x1 x2 x3 x4 : Value} (hd : decode cc pc = .ok (.invokevirtual idx, 3)) (hM' : MT G y cc' nL' ret' d' mc ms (.ref a :: [x1, x2, x3, x4]) h none h') (hl : Cond.methodLink own idx y ∈ jTs) (hy : jMY y cc' nL' ret' 4) (hi : Cond.instanceMethod y ∈ jTs ∧ Cond.selects y.cls y y ∈ jTs) (ho : jO h.1 h.2.1 a ci) (hc0 : vwCl[ci]?.map (fun q => q.1) = some y.cls) (hdd : d' + 1 ≤ d) (hm : nL' ≤ 45) (hst : (st.map fun v => v.category).sum ≤ 8) (k : J G own cc nL ini d Q ac sc h' (pc + 3) lo st) : J G own cc nL ini d Q (ac + mc) (sc + ms) h pc lo (x4 :: x3 :: x2 :: x1 :: .ref a :: st) := j_callV4 hd hM' hl hy hi ho hc0 hdd hm hst k
theorem j_cS4v {x1 x2 x3 x4 : Value} (hd : decode cc pc = .ok (.invokestatic idx, 3)) (hM' : MT G y cc' nL' ret' d' mc ms [x1, x2, x3, x4] h none h') (hl : Cond.methodLink own idx y ∈ jTs) (hy : jMY y cc' nL' ret' 4) (hi : Cond.static y ∈ jTs) (hdd : d' + 1 ≤ d) (hm : nL' ≤ 45) (hst : (st.map fun v => v.category).sum ≤ 8) (k : J G own cc nL ini d Q ac sc h' (pc + 3) lo st) : J G own cc nL ini d Q (ac + mc) (sc + ms) h pc lo (x4 :: x3 :: x2 :: x1 :: st) := j_callS4 hd hM' hl hy hi hdd hm hst k
theorem j_cV5r {a ci : Nat} {x1 x2 x3 x4 x5 : Value} (hd : decode cc pc = .ok (.invokevirtual idx, 3)) (hM' : MT G y cc' nL' ret' d' mc ms (.ref a :: [x1, x2, x3, x4, x5]) h (some x) h') (hl : Cond.methodLink own idx y ∈ jTs) (hy : jMY y cc' nL' ret' 5) (hi : Cond.instanceMethod y ∈ jTs ∧ Cond.selects y.cls y y ∈ jTs) (ho : jO h.1 h.2.1 a ci) (hc0 : vwCl[ci]?.map (fun q => q.1) = some y.cls) (hdd : d' + 1 ≤ d) (hm : nL' ≤ 45) (hst : (st.map fun v => v.category).sum ≤ 8) (k : J G own cc nL ini d Q ac sc h' (pc + 3) lo (x :: st)) : J G own cc nL ini d Q (ac + mc) (sc + ms) h pc lo (x5 :: x4 :: x3 :: x2 :: x1 :: .ref a :: st) := j_callV5 hd hM' hl hy hi ho hc0 hdd hm hst k
theorem j_cS5r {x1 x2 x3 x4 x5 : Value} (hd : decode cc pc = .ok (.invokestatic idx, 3)) (hM' : MT G y cc' nL' ret' d' mc ms [x1, x2, x3, x4, x5] h (some x) h') (hl : Cond.methodLink own idx y ∈ jTs) (hy : jMY y cc' nL' ret' 5) (hi : Cond.static y ∈ jTs) (hdd : d' + 1 ≤ d) (hm : nL' ≤ 45) (hst : (st.map fun v => v.category).sum ≤ 8) (k : J G own cc nL ini d Q ac sc h' (pc + 3) lo (x :: st)) : J G own cc nL ini d Q (ac + mc) (sc + ms) h pc lo (x5 :: x4 :: x3 :: x2 :: x1 :: st) := j_callS5 hd hM' hl hy hi hdd hm hst k
theorem j_cV5v {a ci : Nat} {x1 x2 x3 x4 x5 : Value} (hd : decode cc pc = .ok (.invokevirtual idx, 3)) (hM' : MT G y cc' nL' ret' d' mc ms (.ref a :: [x1, x2, x3, x4, x5]) h none h') (hl : Cond.methodLink own idx y ∈ jTs) (hy : jMY y cc' nL' ret' 5) (hi : Cond.instanceMethod y ∈ jTs ∧ Cond.selects y.cls y y ∈ jTs) (ho : jO h.1 h.2.1 a ci) (hc0 : vwCl[ci]?.map (fun q => q.1) = some y.cls) (hdd : d' + 1 ≤ d) (hm : nL' ≤ 45) (hst : (st.map fun v => v.category).sum ≤ 8) (k : J G own cc nL ini d Q ac sc h' (pc + 3) lo st) : J G own cc nL ini d Q (ac + mc) (sc + ms) h pc lo (x5 :: x4 :: x3 :: x2 :: x1 :: .ref a :: st) := j_callV5 hd hM' hl hy hi ho hc0 hdd hm hst k
theorem j_cS5v {x1 x2 x3 x4 x5 : Value} (hd : decode cc pc = .ok (.invokestatic idx, 3)) (hM' : MT G y cc' nL' ret' d' mc ms [x1, x2, x3, x4, x5] h none h') (hl : Cond.methodLink own idx y ∈ jTs) (hy : jMY y cc' nL' ret' 5) (hi : Cond.static y ∈ jTs) (hdd : d' + 1 ≤ d) (hm : nL' ≤ 45) (hst : (st.map fun v => v.category).sum ≤ 8) (k : J G own cc nL ini d Q ac sc h' (pc + 3) lo st) : J G own cc nL ini d Q (ac + mc) (sc + ms) h pc lo (x5 :: x4 :: x3 :: x2 :: x1 :: st) := j_callS5 hd hM' hl hy hi hdd hm hst k
/-- the value on the stack under another name -/
theorem j_top {v w : Value} (e : v = w) (k : J G own cc nL ini d Q ac sc h pc lo (w :: st)) : J G own cc nL ini d Q ac sc h pc lo (v :: st) := e ▸ k
theorem j_topi {v w : Int32} (e : v = w) (k : J G own cc nL ini d Q ac sc h pc lo (.int w :: st)) : J G own cc nL ini d Q ac sc h pc lo (.int v :: st) := e ▸ k
/-- the heap under another name -/
theorem j_heap {h2 : jH} (e : h = h2) (k : J G own cc nL ini d Q ac sc h2 pc lo st) : J G own cc nL ini d Q ac sc h pc lo st := e ▸ k
/-- what is wanted at the end, under another name -/
theorem j_post {Q2 : Option Value → jH → Prop} (e : ∀ v h, Q2 v h → Q v h) (k : J G own cc nL ini d Q2 ac sc h pc lo st) : J G own cc nL ini d Q ac sc h pc lo st := by
  intro p l e' R s m args below meth c Z hM hK H locs cells slots ls hW hL hc hs hl
  exact k p l e' R s m args below meth c Z hM (fun v h' H' locs' cells' slots' pc' ls' hq => hK v h' H' locs' cells' slots' pc' ls' (e v h' hq)) H locs cells slots ls hW hL hc hs hl
/-- more room than is needed -/
theorem j_room {ac' sc' : Nat} (h1 : ac' ≤ ac) (h2 : sc' ≤ sc) (k : J G own cc nL ini d Q ac' sc' h pc lo st) : J G own cc nL ini d Q ac sc h pc lo st := by
  intro p l e' R s m args below meth c Z hM hK H locs cells slots ls hW hL hc hs hl
  exact k p l e' R s m args below meth c Z hM hK H locs cells slots ls hW hL (by omega) (by omega) hl
end JR7
theorem jl0 : (0 : Int32) = nI 0 := rfl
theorem jl1 : (1 : Int32) = nI 1 := rfl
theorem jl2 : (2 : Int32) = nI 2 := rfl
theorem jl3 : (3 : Int32) = nI 3 := rfl
theorem jl4 : (4 : Int32) = nI 4 := rfl
theorem jl5 : (5 : Int32) = nI 5 := rfl
theorem jl6 : (6 : Int32) = nI 6 := rfl
theorem jl7 : (7 : Int32) = nI 7 := rfl
theorem jl8 : (8 : Int32) = nI 8 := rfl
theorem jl9 : (9 : Int32) = nI 9 := rfl
theorem jl10 : (10 : Int32) = nI 10 := rfl
theorem jl11 : (11 : Int32) = nI 11 := rfl
theorem jl12 : (12 : Int32) = nI 12 := rfl
theorem jl13 : (13 : Int32) = nI 13 := rfl
theorem jl14 : (14 : Int32) = nI 14 := rfl
theorem jl15 : (15 : Int32) = nI 15 := rfl
theorem jl16 : (16 : Int32) = nI 16 := rfl
theorem jl17 : (17 : Int32) = nI 17 := rfl
theorem jl18 : (18 : Int32) = nI 18 := rfl
theorem jl19 : (19 : Int32) = nI 19 := rfl
theorem jl20 : (20 : Int32) = nI 20 := rfl
theorem jl21 : (21 : Int32) = nI 21 := rfl
theorem jl22 : (22 : Int32) = nI 22 := rfl
theorem jl23 : (23 : Int32) = nI 23 := rfl
theorem jl24 : (24 : Int32) = nI 24 := rfl
theorem jl25 : (25 : Int32) = nI 25 := rfl
theorem jl26 : (26 : Int32) = nI 26 := rfl
theorem jl27 : (27 : Int32) = nI 27 := rfl
theorem jl28 : (28 : Int32) = nI 28 := rfl
theorem jl29 : (29 : Int32) = nI 29 := rfl
theorem jl30 : (30 : Int32) = nI 30 := rfl
theorem jl31 : (31 : Int32) = nI 31 := rfl
theorem jl32 : (32 : Int32) = nI 32 := rfl
theorem jl33 : (33 : Int32) = nI 33 := rfl
theorem jl34 : (34 : Int32) = nI 34 := rfl
theorem jl35 : (35 : Int32) = nI 35 := rfl
theorem jl36 : (36 : Int32) = nI 36 := rfl
theorem jl37 : (37 : Int32) = nI 37 := rfl
theorem jl38 : (38 : Int32) = nI 38 := rfl
theorem jl39 : (39 : Int32) = nI 39 := rfl
theorem jl40 : (40 : Int32) = nI 40 := rfl
theorem jl41 : (41 : Int32) = nI 41 := rfl
theorem jl42 : (42 : Int32) = nI 42 := rfl
theorem jl43 : (43 : Int32) = nI 43 := rfl
theorem jl44 : (44 : Int32) = nI 44 := rfl
theorem jl45 : (45 : Int32) = nI 45 := rfl
theorem jl46 : (46 : Int32) = nI 46 := rfl
theorem jl47 : (47 : Int32) = nI 47 := rfl
theorem jl48 : (48 : Int32) = nI 48 := rfl
theorem jl49 : (49 : Int32) = nI 49 := rfl
theorem jl50 : (50 : Int32) = nI 50 := rfl
theorem jl51 : (51 : Int32) = nI 51 := rfl
theorem jl52 : (52 : Int32) = nI 52 := rfl
theorem jl53 : (53 : Int32) = nI 53 := rfl
theorem jl54 : (54 : Int32) = nI 54 := rfl
theorem jl55 : (55 : Int32) = nI 55 := rfl
theorem jl56 : (56 : Int32) = nI 56 := rfl
theorem jl57 : (57 : Int32) = nI 57 := rfl
theorem jl58 : (58 : Int32) = nI 58 := rfl
theorem jl59 : (59 : Int32) = nI 59 := rfl
theorem jl60 : (60 : Int32) = nI 60 := rfl
theorem jl61 : (61 : Int32) = nI 61 := rfl
theorem jl62 : (62 : Int32) = nI 62 := rfl
theorem jl63 : (63 : Int32) = nI 63 := rfl
theorem jl64 : (64 : Int32) = nI 64 := rfl
theorem jl99 : (99 : Int32) = nI 99 := rfl
theorem jl100 : (100 : Int32) = nI 100 := rfl
theorem jl104 : (104 : Int32) = nI 104 := rfl
theorem jl126 : (126 : Int32) = nI 126 := rfl
theorem jl200 : (200 : Int32) = nI 200 := rfl
theorem jl208 : (208 : Int32) = nI 208 := rfl
theorem jl364 : (364 : Int32) = nI 364 := rfl
theorem jl416 : (416 : Int32) = nI 416 := rfl
theorem jl520 : (520 : Int32) = nI 520 := rfl
theorem jl624 : (624 : Int32) = nI 624 := rfl
theorem jl1000 : (1000 : Int32) = nI 1000 := rfl
theorem jl1024 : (1024 : Int32) = nI 1024 := rfl
/-- a single cell's value behind a write -/
theorem jup_at {α : Type} (f : Nat → Nat → α) (a j : Nat) (v : α) (a' j' : Nat) : jup f a j v a' j' = if a' = a ∧ j' = j then v else f a' j' := by
  unfold jup
  by_cases h : a' = a
  · subst h; by_cases h2 : j' = j <;> simp [h2]
  · simp [h]
theorem jrow_at {α : Type} (f : Nat → Nat → α) (a : Nat) (g : Nat → α) (a' j' : Nat) : jrow f a g a' j' = if a' = a then g j' else f a' j' := by
  unfold jrow
  by_cases h : a' = a
  · subst h; simp
  · simp [h]
theorem jup_self {α : Type} (f : Nat → Nat → α) (a j : Nat) (v : α) : jup f a j v a j = v := by rw [jup_at]; simp
theorem jup_oth {α : Type} {f : Nat → Nat → α} {a j : Nat} {v : α} {a' j' : Nat} (h : a' ≠ a) : jup f a j v a' j' = f a' j' := by rw [jup_at]; simp [h]
theorem jup_oth2 {α : Type} {f : Nat → Nat → α} {a j : Nat} {v : α} {a' j' : Nat} (h : j' ≠ j) : jup f a j v a' j' = f a' j' := by rw [jup_at]; simp [h]
