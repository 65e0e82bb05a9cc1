section VROW
variable {p : Program} {l : Launch} {e : Env} {R : Room} {s : State} {m : MethodId} {args : Array Value} {below : List Frame} {meth : Method} {c : Code} {D : Dg} {b : Nat} {P : Option Value → Hp → Prop} {X : String → Hp → Prop} {mc ms : Nat}
variable {own nm : String} {cc : ByteArray} {nL d : Nat} {rt : Option FieldType} {tb : List ExceptionTableEntry} {h : Hp} {cs ss pc : Nat} {L : List (Option Value)} {st : List Value} {F : Nat → Option Fq}
theorem v_get (K : Ok ((p, l, e, R), (s, m, args, below), (meth, c, D, b), (P, X, mc, ms)) own cc nL rt nm d tb) (hF : Fok own F) {j a : Nat} {q : Fq} (hj : F j = some q) (hk : h.1 a = some (.inl q.1)) (hd : decode cc pc = .ok (.getfield j, 3))
    (kk : V ((p, l, e, R), (s, m, args, below), (meth, c, D, b), (P, X, mc, ms)) h cs ss (pc + 3) L (h.2 a q.2.1 :: st)) : V ((p, l, e, R), (s, m, args, below), (meth, c, D, b), (P, X, mc, ms)) h cs ss pc L (.ref a :: st) := by
  obtain ⟨hx, hb, hml, hown, hts, hr, hlk, hnm, hKn, hbs, hR0, hfl, hxt⟩ := K
  intro H locs ls hR hS hL
  obtain ⟨r, hc, hlt, hw, hty, hfi⟩ := hF j q hj
  obtain ⟨_, r', hc', cell, q1, q2, q3, q4⟩ := hR a _ hk
  have e1 : r' = r := Option.some.inj (hc'.symm.trans hc)
  subst e1
  obtain ⟨hSl, hfc, kC, hkC, hkind⟩ := hKn.1.1 q.1 _ hc
  obtain ⟨cf, kf, fi, f, hi, hsl⟩ := hSl q.2.1 hlt
  refine W.getf hx hb hown (hts _ hw) hi (u_facts hfc hkC (u_lays hts (vcl_in hc) hlt) hi).1 q1 (by rw [q3]; exact fun h => by cases h) (v := h.2 a q.2.1) ?_ rfl rfl hd (kk H locs ls hR hS hL)
  rw [hsl, q4 _ hlt]
theorem v_put (K : Ok ((p, l, e, R), (s, m, args, below), (meth, c, D, b), (P, X, mc, ms)) own cc nL rt nm d tb) (hF : Fok own F) {ini : Option Nat} (hini : ∀ c, ini = some c → nm = "<init>" ∧ ∀ r : vw_C, vcl[c]? = some r → ∀ k, k < r.2.2 → (r.2.1 k).1 = own) {j a : Nat} {q : Fq} {v : Value} (hj : F j = some q) (hk : h.1 a = some (.inl q.1)) (hv : okv q.2.2.1 v) (hf : q.2.2.2 = true → ini = some q.1) (hd : decode cc pc = .ok (.putfield j, 3))
    (kk : V ((p, l, e, R), (s, m, args, below), (meth, c, D, b), (P, X, mc, ms)) (h.1, hup h.2 a q.2.1 v) cs ss (pc + 3) L st) : V ((p, l, e, R), (s, m, args, below), (meth, c, D, b), (P, X, mc, ms)) h cs ss pc L (v :: .ref a :: st) := by
  obtain ⟨hx, hb, hml, hown, hts, hr, hlk, hnm, hKn, hbs, hR0, hfl, hxt⟩ := K
  intro H locs ls hR hS hL
  obtain ⟨r, hc, hlt, hw, hty, hfi⟩ := hF j q hj
  obtain ⟨hba, r', hc', cell, q1, q2, q3, q4⟩ := hR a _ hk
  have e1 : r' = r := Option.some.inj (hc'.symm.trans hc)
  subst e1
  have hap := va_apart (s := s) (own := own) hts (vcl_in hc) (vft q.1) (vft_ok hc) (vcl_nm hc) hKn.1 hc
  obtain ⟨hSl, hfc, kC, hkC, hkind⟩ := hKn.1.1 q.1 _ hc
  obtain ⟨cf, kf, fi, f, hi, hsl⟩ := hSl q.2.1 hlt
  have hlays := u_lays hts (vcl_in hc) hlt
  have hst := (u_facts hfc hkC hlays hi).1
  have done : ∀ H' : Heap, H'[a]? = some (cell.setSlot f.slot v) → H'.size = H.size → (∀ q, q ≠ a → H'[q]? = H[q]?) → W p l e R s m args below meth c H' (locs ++ [⟨a, f.slot⟩]) cs ss (vx_MQ below (PQ D b P) (PX D b X) args s mc ms (fun q => b ≤ q)) (F0 m (pc + 3) ls st) := by
    intro H' e1 e2 e3
    rw [hsl] at e1 ⊢
    exact kk H' _ ls (hR.put hk ⟨_, hc, _, e1, q2, q3, t_set q4 hap hlt v⟩ e3) (hS.put e2 e3 hba) hL
  have hlay := hts _ (vcl_in hc _ (u_in_lay hlt))
  unfold u_lay at hlay
  by_cases hfin : q.2.2.2 = true
  · rw [if_pos (hfi.trans hfin)] at hlay
    have hcf : m.cls = cf := by
      obtain ⟨_, _, c', _, _, _, -, -, hf', -, -, -, hown2, -⟩ := Cond.laysFinal_spec hlay
      have e1 : c' = cf := by have := hi.symm.trans hf'; simp at this; exact this.1.symm
      rw [(hini _ (hf hfin)).2 _ hc _ hlt] at hown2
      rw [← e1]; exact Option.some.inj (hown.symm.trans hown2)
    have h6 := u_fits hfc hkC hkind (Or.inr hlay) hi hty hv.1 hv.2
    exact W.putFinK hx hb hown (hts _ hw) hi hst hcf (hnm.trans (hini _ (hf hfin)).1) (by rw [q2]; exact h6) q1 q3 (by rw [hsl]; exact k2_hasslot (q4 _ hlt)) rfl rfl hd done
  · rw [if_neg (by rw [hfi]; exact hfin)] at hlay
    have h6 := u_store hfc hkC hkind hlay hi hty hv.1 hv.2
    exact W.putK hx hb (f := f) ⟨hown, hts _ hw, ⟨_, _, _, hi⟩, hst⟩ (by rw [q2]; exact h6) q1 q3 (by rw [hsl]; exact k2_hasslot (q4 _ hlt)) rfl rfl hd done
theorem vtl_at (dA : Nat → ClassId) {k : Nat} (h : k < 9 ∧ k ≠ 1 ∧ k ≠ 3) : (vtl dA)[k]? = some (dA k, vty k) := by
  obtain ⟨h1, h2, h3⟩ := h
  simp [vtl, h1, h2, h3]
theorem v_arr {a t n : Nat} {H : Heap} (K : Ok ((p, l, e, R), (s, m, args, below), (meth, c, D, b), (P, X, mc, ms)) own cc nL rt nm d tb) (hR : Rel D b h H) (hk : h.1 a = some (.inr (t, n))) :
    H[a]? = some (arrV (D.2 t) n (h.2 a)) ∧ s.isArrayOf (arrV (D.2 t) n (h.2 a)) (vty t) ∧ b ≤ a ∧ va_RA s (D.2 t) (vty t) := by
  obtain ⟨hx, hb, hml, hown, hts, hr, hlk, hnm, hKn, hbs, hR0, hfl, hxt⟩ := K
  obtain ⟨h1, h2, h3⟩ := hR a _ hk
  have h4 := hKn.1.2 t _ (vtl_at D.2 h2)
  exact ⟨h3, h4.1 n (h.2 a), h1, h4.2⟩
theorem v_in {i : Int32} {n : Nat} {cA : ClassId} {g : Nat → Value} (h : vp_in i n) : ¬ (i < 0 ∨ (arrV cA n g).slots.size ≤ i.toNatClampNeg) := by
  rw [arrV_size]; exact h
theorem v_rd {i : Int32} {n : Nat} {cA : ClassId} {g : Nat → Value} (h : vp_in i n) : (arrV cA n g).slots[i.toNatClampNeg]? = some (g i.toNatClampNeg) :=
  arrV_read _ _ (Nat.not_le.mp fun q => h (Or.inr q))
theorem v_unk {n : Nat} {cA : ClassId} {g : Nat → Value} : (arrV cA n g).vm ≠ .unknown := fun q => by cases q
theorem v_sto {a t n k : Nat} {v : Value} {H H1 : Heap} (hR : Rel D b h H) (hk : h.1 a = some (.inr (t, n))) (e1 : H1[a]? = some ((arrV (D.2 t) n (h.2 a)).setSlot k v)) (e3 : ∀ q, q ≠ a → H1[q]? = H[q]?) : Rel D b (h.1, hup h.2 a k v) H1 := by
  refine hR.put hk ⟨(hR a _ hk).2.1, ?_⟩ e3
  rw [e1, arrV_store]
end VROW
