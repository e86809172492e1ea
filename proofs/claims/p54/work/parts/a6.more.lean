/-! room: what was made counts as a bound -/
theorem sbn_more {s s' : State} {locs : List Loc} {c n c' n' : Nat} (h : s.sameButNew s' locs c n) (hc : c ≤ c') (hn : n ≤ n') : s.sameButNew s' locs c' n' :=
  ⟨h.1, h.2.1, Nat.le_trans h.2.2.1 (Nat.add_le_add_left hc _), h.2.2.2.1, Nat.le_trans h.2.2.2.2.1 hn, h.2.2.2.2.2⟩
theorem W.more {p : Program} {l : Launch} {e : Env} {R : Room} {s : State} {m : MethodId} {args : Array Value} {below : List Frame} {meth : Method} {c : Code} {H : Heap} {locs : List Loc} {cells slots cells' slots' : Nat} {Q : State → Prop} {g : JFrame} (k : W p l e R s m args below meth c H locs cells' slots' Q g) (hc : cells ≤ cells') (hn : slots ≤ slots') : W p l e R s m args below meth c H locs cells slots Q g := by
  intro T hT X
  exact k T hT { X with same := sbn_more X.same hc hn }
theorem Met.more {l : Launch} {y : MethodName} {ws : List Cond} {rm : Room} {Pc : Array Value → State → Prop} {Qc : Array Value → State → Outcome → State → Prop} {mc ms mc' ms' : Nat} {free : Addr → Prop} (h : Met l y ws rm Pc Qc mc ms free) (hc : mc ≤ mc') (hn : ms ≤ ms') : Met l y ws rm Pc Qc mc' ms' free := by
  intro p e ha hc' hk s m args below hf happ hP hK
  obtain ⟨n, o, h1, h2, h3, h4, L, h5, h6⟩ := h p e ha hc' hk s m args below hf happ hP hK
  exact ⟨n, o, h1, h2, h3, h4, L, ⟨h5.1, h5.2.1, sbn_more h5.2.2 hc hn⟩, h6⟩
theorem MetD.more {cs : List Choice} {l : Launch} {y : MethodName} {ws : List Cond} {rm : Room} {Pc : Array Value → State → Prop} {Qc : Array Value → State → Outcome → State → Prop} {mc ms mc' ms' : Nat} {free : Addr → Prop} (h : MetD cs l y ws rm Pc Qc mc ms free) (hc : mc ≤ mc') (hn : ms ≤ ms') : MetD cs l y ws rm Pc Qc mc' ms' free := by
  intro p e ha hc' hk s m args below hf happ hP hK
  obtain ⟨n, o, h1, h2, h3, d, h4, h5, L, h6, h7⟩ := h p e ha hc' hk s m args below hf happ hP hK
  exact ⟨n, o, h1, h2, h3, d, h4, h5, L, ⟨h6.1, h6.2.1, sbn_more h6.2.2 hc hn⟩, h7⟩
