theorem WW_keep {G : GT} {H0 H H1 : Heap} {ws : va_W} {locs locs1 : List Loc} (hW : WW G H0 ws H locs) (hk : ∀ q, q < H.size → H1[q]? = H[q]?) (hS : va_S (gAb G) H0 H1 locs1) : WW G H0 ws H1 locs1 :=
  ⟨hW.1.kept (fun k x hx => hk x.1 ((hW.1 k x hx).lt)), hW.2.1, hS⟩
def flF (f : Nat → Int32) (v : Int32) (j : Nat) : Nat → Int32 := fun i => if i < j then v else f i
theorem flF_0 {f : Nat → Int32} {v : Int32} : flF f v 0 = f := funext fun i => if_neg (Nat.not_lt_zero i)
theorem flF_s {f : Nat → Int32} {v : Int32} {j : Nat} : upd (flF f v j) j v = flF f v (j + 1) := by
  funext i
  unfold upd flF
  by_cases h : i = j
  · rw [if_pos h, if_pos (by omega)]
  · rw [if_neg h]
    by_cases h2 : i < j
    · rw [if_pos h2, if_pos (by omega)]
    · rw [if_neg h2, if_neg (by omega)]
set_option maxHeartbeats 4000000 in
set_option maxRecDepth 100000 in
theorem h_fill (l : Launch) (G : GT) (Hx : Heap) (ws : va_W) (k a n : Nat) (f : Nat → Int32) (v : Int32) (hk : ws[k]? = some (a, aI (gC G 0) n f)) (hn : n < 2 ^ 31) (hP : va_P G.1 gcl ws Hx) (hD : va_D (gAb G) ws) : Met l y_Arrays_fill (.code y_Arrays_fill b_Arrays_fill 4 none :: WS) { frames := 0, cells := 0, slots := 0, locals := 0 } (hPre G [.ref a, .int v] (fun H9 => H9 = Hx)) (hQv G (fun H9 => va_P G.1 gcl (ws.set k (a, aI (gC G 0) n (flF f v n))) H9 ∧ va_D (gAb G) (ws.set k (a, aI (gC G 0) n (flF f v n))))) 0 0 (gAb G) := by
  refine h_startF (own := R_Arrays) (by decide +kernel) rfl (Nat.le_of_ble_eq_true rfl) ?_
  intro p e zs zm below meth zc ls C hI hl
  subst hI
  obtain ⟨hx, hb, hr, hml, hown, hts, hlk, hE, hbs⟩ := C
  have hK := hE.1
  have hl : lv_has ls 4 [(0, .ref a), (1, .int v)] := hl
  have hlk9 : k < ws.length := (List.getElem?_eq_some_iff.mp hk).1
  have e0 : ws.set k (a, aI (gC G 0) n (flF f v 0)) = ws := by
    rw [flF_0]
    apply List.ext_getElem?
    intro i
    by_cases hi : i = k
    · subst hi
      rw [List.getElem?_set_self hlk9, hk]
    · rw [List.getElem?_set_ne (fun e => hi e.symm)]
  have hW : WW G zs.heap (ws.set k (a, aI (gC G 0) n (flF f v 0))) zs.heap [] := by rw [e0]; exact ⟨hP, hD, va_S.rf⟩
  refine lv_iconst (v := 0) hx hb d_Arrays_fill_0 (by decide) ?_
  refine lv_istore_n (lv' := [(2, .int 0), (0, .ref a), (1, .int v)]) hx hb d_Arrays_fill_1 rfl hl (by decide) rfl (fun ls hl => ?_)
  refine lv_aload_n hx hb d_Arrays_fill_2 rfl (lv_at hl 1 rfl) ?_
  refine va_alen (v := nI n) hx hb hK hW.1 k 0 (x := (n, .inl (flF f v 0))) (List.getElem?_set_self hlk9) (ty := .int) rfl rfl d_Arrays_fill_3 ?_
  refine lv_istore_n (lv' := [(3, .int (nI n)), (2, .int 0), (0, .ref a), (1, .int v)]) hx hb d_Arrays_fill_4 rfl hl (by decide) rfl (fun ls hl => ?_)
  have L_5 : ∀ (N j : Nat), j ≤ n → n + 1 ≤ j + N → ∀ (H : Heap) (locs : List Loc) (ls : Array Slot), WW G zs.heap (ws.set k (a, aI (gC G 0) n (flF f v j))) H locs → lv_has ls 4 [(3, .int (nI n)), (2, .int (nI j)), (0, .ref a), (1, .int v)] → W p l e { frames := 0, cells := 0, slots := 0, locals := 0 } zs zm [Value.ref a, Value.int v].toArray below meth zc H locs 0 0 (MQ below (hQv G (fun H9 => va_P G.1 gcl (ws.set k (a, aI (gC G 0) n (flF f v n))) H9 ∧ va_D (gAb G) (ws.set k (a, aI (gC G 0) n (flF f v n))))) [Value.ref a, Value.int v].toArray zs 0 0 (gAb G)) (F0 zm 5 ls []) := by
    intro N
    induction N with
    | zero => intro j h1 h2; exact absurd h2 (by omega)
    | succ N ih =>
      intro j hj hN H locs ls hW hl
      refine lv_iload_n hx hb d_Arrays_fill_5 rfl (lv_at hl 1 rfl) ?_
      refine lv_iload_n hx hb d_Arrays_fill_6 rfl (lv_at hl 0 rfl) ?_
      refine lv_icmp_ge (tgt := 20) hx hb d_Arrays_fill_7 (by decide) (fun c_1 => ?_) (fun c_1 => ?_)
      · have e_j : n = j := (lp_out rfl (by omega) hj c_1).symm
        subst e_j
        exact h_vret hx hb hr hlk hW.2.2 ⟨hW.1, hW.2.1⟩ (Nat.le_refl _) (Nat.le_refl _) d_Arrays_fill_20
      · have lt_j : j < n := lp_in rfl (by omega) hj c_1
        refine lv_aload_n hx hb d_Arrays_fill_10 rfl (lv_at hl 2 rfl) ?_
        refine lv_iload_n hx hb d_Arrays_fill_11 rfl (lv_at hl 1 rfl) ?_
        refine lv_iload_n hx hb d_Arrays_fill_12 rfl (lv_at hl 3 rfl) ?_
        refine va_iast hx hb hK hW.1 hW.2.1 hW.2.2 k 0 (n := n) (f := flF f v j) (List.getElem?_set_self hlk9) rfl (vp_in_nI lt_j hn) d_Arrays_fill_13 (fun H locs h1 h2 h3 => ?_)
        rw [nI_clamp (by omega), flF_s, List.set_set] at h1 h2
        refine lv_iinc (v := nI (j + 1)) (lv' := [(2, .int (nI (j + 1))), (3, .int (nI n)), (0, .ref a), (1, .int v)]) hx hb d_Arrays_fill_14 hl (k := 1) rfl (nI_1 j) (by decide) rfl (fun ls hl => ?_)
        refine lv_goto (tgt := 5) hx hb d_Arrays_fill_17 (by decide) ?_
        exact ih (j + 1) (by omega) (by omega) _ _ _ ⟨h1, h2, h3⟩ (lv_sub hl [1, 0, 2, 3] rfl)
  exact L_5 (n + 1) 0 (by omega) (by omega) _ _ _ hW (lv_sub hl [0, 1, 2, 3] rfl)
section KR2
variable {p : Program} {l : Launch} {e : Env} {R : Room} {s : State} {m : MethodId} {args : Array Value} {below : List Frame} {meth : Method} {c : Code} {H : Heap} {locs : List Loc} {cells slots : Nat} {Q : State → Prop}
variable {cc : ByteArray} {pc : Nat} {ls : Array Slot} {rest : List Value} {G : GT}
theorem h_aldA (hx : p.tables.exec = Jvm.exec) (hb : c.code = cc) (hK : va_K G.1 gcl (tys G) s) {ws : va_W} (hP : va_P G.1 gcl ws H) (k : Nat) {a n : Nat} {f : Nat → Option Nat} (hk : ws[k]? = some (a, aR (gC G 3) n f)) {j q : Nat} (hj : j < n) (hn : n < 2 ^ 31) (hq : f j = some q) {i : Int32} (hi : i = nI j) (hdg : decode cc pc = .ok (.aaload, 1))
    (kk : W p l e R s m args below meth c H locs cells slots Q (F0 m (pc + 1) ls (.ref q :: rest))) : W p l e R s m args below meth c H locs cells slots Q (F0 m pc ls (.int i :: .ref a :: rest)) := by
  subst hi
  have hn31 : (nI j).toNatClampNeg = j := nI_clamp (by omega)
  exact W.aald (v := .ref q) (ty := .array .int) hx hb (hP k _ hk) ((hK.2 3 _ rfl).1 n (fun j => va_rf (f j))) rfl (fun q => by cases q) (by show ¬ (nI j < 0 ∨ (arrV _ _ _).slots.size ≤ _); rw [arrV_size]; exact vp_in_nI hj hn) (by show (arrV _ _ _).slots[_]? = _; rw [hn31, arrV_read _ _ hj, hq]; rfl) rfl rfl hdg kk
end KR2
theorem mna_block {G : GT} {H : Heap} {σ N : Nat} {e : va_E} {e2 : va_E} (h0 : va_at G.1 gcl (σ, e) H) (h1 : ∀ i, i < N → va_at G.1 gcl (σ + 1 + i, e2) H) : va_P G.1 gcl ((σ, e) :: (List.range N).map (fun i => (σ + 1 + i, e2))) H ∧ va_D (fun q => σ ≤ q) ((σ, e) :: (List.range N).map (fun i => (σ + 1 + i, e2))) := by
  refine ⟨va_P_mem.mpr (fun q hq => ?_), va_D_nd.mpr ⟨?_, fun q hq => ?_⟩⟩
  · rcases List.mem_cons.mp hq with rfl | hq
    · exact h0
    · obtain ⟨i, hi, rfl⟩ := List.mem_map.mp hq
      exact h1 i (List.mem_range.mp hi)
  · rw [List.map_cons, List.nodup_cons, List.map_map]
    refine ⟨fun h => ?_, ?_⟩
    · obtain ⟨i, -, hi⟩ := List.mem_map.mp h
      simp at hi
      omega
    · rw [List.nodup_iff_pairwise_ne, List.pairwise_map]
      exact List.Pairwise.imp (fun {a b} h => by simp; omega) (List.pairwise_lt_range)
  · rcases List.mem_cons.mp hq with rfl | hq
    · exact Nat.le_refl _
    · obtain ⟨i, hi, rfl⟩ := List.mem_map.mp hq
      show σ ≤ σ + 1 + i
      omega
theorem WW_push2 {G : GT} {H0 H H1 : Heap} {ws : va_W} {locs locs1 : List Loc} {e : va_E} {z : Nat} (hW : WW G H0 ws H locs) (hbs : gbase G ≤ H0.size) (hz : Array.size H = z) (ha : va_at G.1 gcl (z, e) H1) (hk : ∀ q, q < H.size → H1[q]? = H[q]?) (hS : va_S (gAb G) H0 H1 locs1) : WW G H0 (ws ++ [(z, e)]) H1 locs1 := by
  subst hz
  exact WW_push hW hbs ha hk hS
theorem pm_push (own tail : va_W) (x : Nat × va_E) : ((own ++ tail) ++ [x]).Perm ((own ++ [x]) ++ tail) := by
  rw [List.append_assoc, List.append_assoc]
  exact List.Perm.append_left own List.perm_append_comm
theorem bs_D {A : Nat → Prop} {ws : va_W} {σ : Nat} (h : va_D A ws) (hb : ∀ q ∈ ws, σ ≤ q.1) : va_D (fun q => σ ≤ q) ws := ⟨h.1, fun k q hk => hb q (List.mem_of_getElem? hk)⟩
/-- a constructor of a nest mate -/
theorem h_runIN {p : Program} {l : Launch} {e : Env} {R : Room} {s : State} {m : MethodId} {args : Array Value} {below : List Frame} {meth : Method} {c : Code} {H : Heap} {locs : List Loc} {cells slots : Nat} {cc : ByteArray} {pc : Nat} {ls : Array Slot} {rest : List Value} {G G' : GT} {y : MethodName} {bytes : ByteArray} {maxL nL mc ms n index : Nat} {rm : Room} {Qc : Array Value → State → Outcome → State → Prop} {own host : String} {As st0 : List Value} {I : Heap → Prop} (hx : p.tables.exec = Jvm.exec) (hb : c.code = cc) (hml : c.maxLocals = nL) (hown : s.vm.findClass own = some m.cls) (hts : ∀ w ∈ WS, w.before args s = true) (hE : EnvP G s) (hS : va_S (gAb G) s.heap H locs) (hg : gbase G ≤ gbase G') (hG' : gB G (gbase G') = G') (hbs : gbase G' ≤ H.size) (hI : I H) {b : Nat} (hM : Met l y (.code y bytes maxL none :: WS) rm (hPre G' (.ref b :: As) I) Qc mc ms (gAb G'))
    (k1 : (own, index, y, host) ∈ NWm) (k2 : Cond.instanceMethod y ∈ WS) (hnm : y.name = "<init>") (k3 : Cond.initialized y.cls ∈ WS) (k4 : Cond.code y bytes maxL none ∈ WS) (hrc : rm.cells = mc) (hrs : rm.slots = ms) (hd : y.cls ≠ "java/lang/invoke/MethodHandle" ∧ y.cls ≠ "java/lang/invoke/VarHandle" ∧ (parseMethodDescriptor y.desc).map (fun d => d.parameters.length) = some n) (hR : rm.frames + 1 ≤ R.frames ∧ 8 + (maxL + 11) + rm.locals ≤ R.locals)
    (hn : As.length = n) (hsize : ls.size = nL) (hst : st0 = As.reverse ++ .ref b :: rest) (hcat : (rest.map fun v => v.category).sum ≤ 8) (hdg : decode cc pc = .ok (.invokespecial index, 3)) (hf : cells + mc ≤ R.cells ∧ slots + ms ≤ R.slots) :
    va_Run p l e R s m args below meth c H locs cells slots mc ms (F0 m pc ls st0) rest (Qc (Value.ref b :: As).toArray) (gAb G') :=
  va_runIN ⟨hx, hb, hml, hown, hts⟩ hM ⟨va_cnB n hts (goodWS k4) rfl hrc hrs (hE.2.2.1 _ k1) (hts _ k3) hd hR, hnm, hts _ k2⟩ ⟨hPre_blind, h_pre hE hS hg hG' hbs hI⟩ rfl hn hsize hst (lv_room hcat) hdg hf
theorem sz_eq {a b c sa K z : Nat} (h1 : a ≤ b + c) (h2 : b = sa + 1) (h3 : z < a) (e1 : 1 + c = K) (e2 : z + 1 = sa + K) : a = sa + K := by omega
theorem gs_le {g b sa K : Nat} (h1 : g ≤ b) (h2 : b = sa + 1) (hK : 1 ≤ K) : g ≤ sa + K := by omega
theorem sz_le {a b : Nat} (h : a = b + 1) : b ≤ a := by omega
