theorem no253 : ∀ c, c < 19 → ∀ e ∈ sk_lkMT.getD c [], e.2 ≠ 253 := by decide +kernel
section SN12
variable {base : Nat} {ca : Nat → Nat} {fm : Value} {D : va_G}
theorem nxt_inj {pc pc' : Nat} {ls st ls' st' : List Value} {I I' : MI} {J J' : MJ} {R R' : MR} {S S' : Sh} (h : nxt pc ls st I J R S = some (.inl (pc', ls', st', I', J', R', S'))) : pc = pc' ∧ ls = ls' ∧ st = st' ∧ I = I' ∧ J = J' ∧ R = R' ∧ S = S' := by
  unfold nxt at h
  cases h
  exact ⟨rfl, rfl, rfl, rfl, rfl, rfl, rfl⟩
variable {p : Program} {l : Launch} {e : Env} {Rm : Room} {s : State} {mid : MethodId} {args : Array Value} {below : List Frame} {meth : Method} {c : Code} {k0 k1 : Nat} {Q : State → Prop}
variable {m pc : Nat} {ls st : List Value} {I : MI} {J : MJ} {R : MR} {S : Sh}
theorem k_ord (C : Cx base ca fm p l s mid args meth c Rm m) {idx a : Nat} (hl : sk_lkM (sk_cl m) idx = some 253) (ha : S.1 a = 20) (hfr : 1 ≤ sk_fr m) (hlo : catS st + 20 ≤ sk_lo m) (hr1 : cN S ≤ Rm.cells + k0) (hr2 : sN S ≤ Rm.slots + k1) (hd : decode (sk_by m) pc = .ok (.invokevirtual idx, 3))
    (kk : Wk base ca fm D p l e Rm s mid args below meth c k0 k1 Q m (pc + 3) ls (.int (I a 0) :: st) I J R S) : Wk base ca fm D p l e Rm s mid args below meth c k0 k1 Q m pc ls (.ref a :: st) I J R S := by
  obtain ⟨-, -, -, -, -, -, -, -, -, -, -, -, -, h19, -⟩ := C
  exact (no253 _ h19 _ (sk_lookup hl) rfl).elim
/-- one step of the small machine that goes on -/
theorem step_go (C : Cx base ca fm p l s mid args meth c Rm m) {i : Instr} {len pc' : Nat} {ls' st' : List Value} {I' : MI} {J' : MJ} {R' : MR} {S' : Sh} (hd : decode (sk_by m) pc = .ok (i, len)) (hx : exI m i len pc ls st I J R S = some (.inl (pc', ls', st', I', J', R', S')))
    (hr1 : cN S' ≤ Rm.cells + k0) (hr2 : sN S' ≤ Rm.slots + k1) (kk : Wk base ca fm D p l e Rm s mid args below meth c k0 k1 Q m pc' ls' st' I' J' R' S') : Wk base ca fm D p l e Rm s mid args below meth c k0 k1 Q m pc ls st I J R S := by
  unfold exI at hx
  split at hx
  · obtain ⟨rfl, rfl, rfl, rfl, rfl, rfl, rfl⟩ := nxt_inj hx
    exact k_iconst C hd kk
  · obtain ⟨rfl, rfl, rfl, rfl, rfl, rfl, rfl⟩ := nxt_inj hx
    exact k_bipush C hd kk
  · obtain ⟨rfl, rfl, rfl, rfl, rfl, rfl, rfl⟩ := nxt_inj hx
    exact k_sipush C hd kk
  · obtain ⟨rfl, rfl, rfl, rfl, rfl, rfl, rfl⟩ := nxt_inj hx
    exact k_lconst C hd kk
  · obtain ⟨rfl, rfl, rfl, rfl, rfl, rfl, rfl⟩ := nxt_inj hx
    exact k_null C hd kk
  · split at hx
    · rename_i v hv
      obtain ⟨rfl, rfl, rfl, rfl, rfl, rfl, rfl⟩ := nxt_inj hx
      exact k_ldcI C hv hd kk
    · split at hx
      · rename_i v hv
        obtain ⟨rfl, rfl, rfl, rfl, rfl, rfl, rfl⟩ := nxt_inj hx
        exact k_ldcS C hv hd kk
      · cases hx
  · split at hx
    · rename_i v hv
      obtain ⟨rfl, rfl, rfl, rfl, rfl, rfl, rfl⟩ := nxt_inj hx
      exact k_ldcwI C hv hd kk
    · cases hx
  · split at hx
    · rename_i v hv
      obtain ⟨rfl, rfl, rfl, rfl, rfl, rfl, rfl⟩ := nxt_inj hx
      exact k_ldc2 C hv hd kk
    · cases hx
  · split at hx
    · rename_i x hv
      obtain ⟨rfl, rfl, rfl, rfl, rfl, rfl, rfl⟩ := nxt_inj hx
      exact k_iload_n C hv hd kk
    · cases hx
  · split at hx
    · rename_i x hv
      obtain ⟨rfl, rfl, rfl, rfl, rfl, rfl, rfl⟩ := nxt_inj hx
      exact k_iload C hv hd kk
    · cases hx
  · split at hx
    · rename_i x hv
      obtain ⟨rfl, rfl, rfl, rfl, rfl, rfl, rfl⟩ := nxt_inj hx
      exact k_lload_n C hv hd kk
    · cases hx
  · split at hx
    · rename_i x hv
      obtain ⟨rfl, rfl, rfl, rfl, rfl, rfl, rfl⟩ := nxt_inj hx
      exact k_lload C hv hd kk
    · cases hx
  · split at hx
    · rename_i x hv
      obtain ⟨rfl, rfl, rfl, rfl, rfl, rfl, rfl⟩ := nxt_inj hx
      exact k_aload_n C hv hd kk
    · rename_i hv
      obtain ⟨rfl, rfl, rfl, rfl, rfl, rfl, rfl⟩ := nxt_inj hx
      exact k_aload_nN C hv hd kk
    · cases hx
  · split at hx
    · rename_i x hv
      obtain ⟨rfl, rfl, rfl, rfl, rfl, rfl, rfl⟩ := nxt_inj hx
      exact k_aload C hv hd kk
    · rename_i hv
      obtain ⟨rfl, rfl, rfl, rfl, rfl, rfl, rfl⟩ := nxt_inj hx
      exact k_aloadN C hv hd kk
    · cases hx
  · split at hx
    · split at hx
      · rename_i hk
        obtain ⟨rfl, rfl, rfl, rfl, rfl, rfl, rfl⟩ := nxt_inj hx
        exact k_istore_n C hk.1 hk.2 hd kk
      · cases hx
    · cases hx
  · split at hx
    · split at hx
      · rename_i hk
        obtain ⟨rfl, rfl, rfl, rfl, rfl, rfl, rfl⟩ := nxt_inj hx
        exact k_istore C hk.1 hk.2 hd kk
      · cases hx
    · cases hx
  · split at hx
    · split at hx
      · rename_i hk
        obtain ⟨rfl, rfl, rfl, rfl, rfl, rfl, rfl⟩ := nxt_inj hx
        exact k_lstore_n C hk.1 hk.2 hd kk
      · cases hx
    · cases hx
  · split at hx
    · split at hx
      · rename_i hk
        obtain ⟨rfl, rfl, rfl, rfl, rfl, rfl, rfl⟩ := nxt_inj hx
        exact k_lstore C hk.1 hk.2 hd kk
      · cases hx
    · cases hx
  · split at hx
    · split at hx
      · rename_i hk
        obtain ⟨rfl, rfl, rfl, rfl, rfl, rfl, rfl⟩ := nxt_inj hx
        exact k_astore_n C hk.1 hk.2 hd kk
      · cases hx
    · split at hx
      · rename_i hk
        obtain ⟨rfl, rfl, rfl, rfl, rfl, rfl, rfl⟩ := nxt_inj hx
        exact k_astore_nN C hk.1 hk.2 hd kk
      · cases hx
    · cases hx
  · split at hx
    · split at hx
      · rename_i hk
        obtain ⟨rfl, rfl, rfl, rfl, rfl, rfl, rfl⟩ := nxt_inj hx
        exact k_astore C hk.1 hk.2 hd kk
      · cases hx
    · split at hx
      · rename_i hk
        obtain ⟨rfl, rfl, rfl, rfl, rfl, rfl, rfl⟩ := nxt_inj hx
        exact k_astoreN C hk.1 hk.2 hd kk
      · cases hx
    · cases hx
  · split at hx
    · rename_i x hv
      split at hx
      · rename_i hk
        obtain ⟨rfl, rfl, rfl, rfl, rfl, rfl, rfl⟩ := nxt_inj hx
        exact k_iinc C hv hk.1 hk.2 hd kk
      · cases hx
    · cases hx
  · split at hx
    · obtain ⟨rfl, rfl, rfl, rfl, rfl, rfl, rfl⟩ := nxt_inj hx
      exact k_iadd C hd kk
    · cases hx
  · split at hx
    · obtain ⟨rfl, rfl, rfl, rfl, rfl, rfl, rfl⟩ := nxt_inj hx
      exact k_isub C hd kk
    · cases hx
  · split at hx
    · obtain ⟨rfl, rfl, rfl, rfl, rfl, rfl, rfl⟩ := nxt_inj hx
      exact k_imul C hd kk
    · cases hx
  · split at hx
    · obtain ⟨rfl, rfl, rfl, rfl, rfl, rfl, rfl⟩ := nxt_inj hx
      exact k_iand C hd kk
    · cases hx
  · split at hx
    · obtain ⟨rfl, rfl, rfl, rfl, rfl, rfl, rfl⟩ := nxt_inj hx
      exact k_ior C hd kk
    · cases hx
  · split at hx
    · split at hx
      · cases hx
      · rename_i hy
        obtain ⟨rfl, rfl, rfl, rfl, rfl, rfl, rfl⟩ := nxt_inj hx
        exact k_idiv C hy hd kk
    · cases hx
  · split at hx
    · split at hx
      · cases hx
      · rename_i hy
        obtain ⟨rfl, rfl, rfl, rfl, rfl, rfl, rfl⟩ := nxt_inj hx
        exact k_irem C hy hd kk
    · cases hx
  · split at hx
    · obtain ⟨rfl, rfl, rfl, rfl, rfl, rfl, rfl⟩ := nxt_inj hx
      exact k_ishl C hd kk
    · cases hx
  · split at hx
    · obtain ⟨rfl, rfl, rfl, rfl, rfl, rfl, rfl⟩ := nxt_inj hx
      exact k_ishr C hd kk
    · cases hx
  · split at hx
    · obtain ⟨rfl, rfl, rfl, rfl, rfl, rfl, rfl⟩ := nxt_inj hx
      exact k_iushr C hd kk
    · cases hx
  · split at hx
    · obtain ⟨rfl, rfl, rfl, rfl, rfl, rfl, rfl⟩ := nxt_inj hx
      exact k_ladd C hd kk
    · cases hx
  · split at hx
    · obtain ⟨rfl, rfl, rfl, rfl, rfl, rfl, rfl⟩ := nxt_inj hx
      exact k_lsub C hd kk
    · cases hx
  · split at hx
    · obtain ⟨rfl, rfl, rfl, rfl, rfl, rfl, rfl⟩ := nxt_inj hx
      exact k_lmul C hd kk
    · cases hx
  · split at hx
    · obtain ⟨rfl, rfl, rfl, rfl, rfl, rfl, rfl⟩ := nxt_inj hx
      exact k_land C hd kk
    · cases hx
  · split at hx
    · obtain ⟨rfl, rfl, rfl, rfl, rfl, rfl, rfl⟩ := nxt_inj hx
      exact k_lor C hd kk
    · cases hx
  · split at hx
    · obtain ⟨rfl, rfl, rfl, rfl, rfl, rfl, rfl⟩ := nxt_inj hx
      exact k_lshl C hd kk
    · cases hx
  · split at hx
    · obtain ⟨rfl, rfl, rfl, rfl, rfl, rfl, rfl⟩ := nxt_inj hx
      exact k_lshr C hd kk
    · cases hx
  · split at hx
    · obtain ⟨rfl, rfl, rfl, rfl, rfl, rfl, rfl⟩ := nxt_inj hx
      exact k_lcmp C hd kk
    · cases hx
  · split at hx
    · obtain ⟨rfl, rfl, rfl, rfl, rfl, rfl, rfl⟩ := nxt_inj hx
      exact k_i2l C hd kk
    · cases hx
  · split at hx
    · obtain ⟨rfl, rfl, rfl, rfl, rfl, rfl, rfl⟩ := nxt_inj hx
      exact k_l2i C hd kk
    · cases hx
  · split at hx
    · obtain ⟨rfl, rfl, rfl, rfl, rfl, rfl, rfl⟩ := nxt_inj hx
      exact k_i2c C hd kk
    · cases hx
  · split at hx
    · split at hx
      · rename_i hv
        obtain ⟨rfl, rfl, rfl, rfl, rfl, rfl, rfl⟩ := nxt_inj hx
        exact k_dup C hv hd kk
      · cases hx
    · cases hx
  · split at hx
    · obtain ⟨rfl, rfl, rfl, rfl, rfl, rfl, rfl⟩ := nxt_inj hx
      exact k_dup2b C hd kk
    · split at hx
      · rename_i hv
        obtain ⟨rfl, rfl, rfl, rfl, rfl, rfl, rfl⟩ := nxt_inj hx
        exact k_dup2a C hv.1 hv.2 hd kk
      · cases hx
    · cases hx
  · split at hx
    · split at hx
      · rename_i hv
        obtain ⟨rfl, rfl, rfl, rfl, rfl, rfl, rfl⟩ := nxt_inj hx
        exact k_pop C hv hd kk
      · cases hx
    · cases hx
  · split at hx
    · obtain ⟨rfl, rfl, rfl, rfl, rfl, rfl, rfl⟩ := nxt_inj hx
      exact k_pop2 C hd kk
    · cases hx
  · rename_i cd off
    split at hx
    · split at hx
      · rename_i hj
        cases cd
        · exact k_if_eq C hj hd (fun q => by rw [if_pos q] at hx; obtain ⟨rfl, rfl, rfl, rfl, rfl, rfl, rfl⟩ := nxt_inj hx; exact kk) (fun q => by rw [if_neg q] at hx; obtain ⟨rfl, rfl, rfl, rfl, rfl, rfl, rfl⟩ := nxt_inj hx; exact kk)
        · exact k_if_ne C hj hd (fun q => by rw [if_pos q] at hx; obtain ⟨rfl, rfl, rfl, rfl, rfl, rfl, rfl⟩ := nxt_inj hx; exact kk) (fun q => by rw [if_neg q] at hx; obtain ⟨rfl, rfl, rfl, rfl, rfl, rfl, rfl⟩ := nxt_inj hx; exact kk)
        · exact k_if_lt C hj hd (fun q => by rw [if_pos q] at hx; obtain ⟨rfl, rfl, rfl, rfl, rfl, rfl, rfl⟩ := nxt_inj hx; exact kk) (fun q => by rw [if_neg q] at hx; obtain ⟨rfl, rfl, rfl, rfl, rfl, rfl, rfl⟩ := nxt_inj hx; exact kk)
        · exact k_if_ge C hj hd (fun q => by rw [if_pos q] at hx; obtain ⟨rfl, rfl, rfl, rfl, rfl, rfl, rfl⟩ := nxt_inj hx; exact kk) (fun q => by rw [if_neg q] at hx; obtain ⟨rfl, rfl, rfl, rfl, rfl, rfl, rfl⟩ := nxt_inj hx; exact kk)
        · exact k_if_gt C hj hd (fun q => by rw [if_pos q] at hx; obtain ⟨rfl, rfl, rfl, rfl, rfl, rfl, rfl⟩ := nxt_inj hx; exact kk) (fun q => by rw [if_neg q] at hx; obtain ⟨rfl, rfl, rfl, rfl, rfl, rfl, rfl⟩ := nxt_inj hx; exact kk)
        · exact k_if_le C hj hd (fun q => by rw [if_pos q] at hx; obtain ⟨rfl, rfl, rfl, rfl, rfl, rfl, rfl⟩ := nxt_inj hx; exact kk) (fun q => by rw [if_neg q] at hx; obtain ⟨rfl, rfl, rfl, rfl, rfl, rfl, rfl⟩ := nxt_inj hx; exact kk)
      · cases hx
    · cases hx
  · rename_i cd off
    split at hx
    · split at hx
      · rename_i hj
        cases cd
        · exact k_icmp_eq C hj hd (fun q => by rw [if_pos q] at hx; obtain ⟨rfl, rfl, rfl, rfl, rfl, rfl, rfl⟩ := nxt_inj hx; exact kk) (fun q => by rw [if_neg q] at hx; obtain ⟨rfl, rfl, rfl, rfl, rfl, rfl, rfl⟩ := nxt_inj hx; exact kk)
        · exact k_icmp_ne C hj hd (fun q => by rw [if_pos q] at hx; obtain ⟨rfl, rfl, rfl, rfl, rfl, rfl, rfl⟩ := nxt_inj hx; exact kk) (fun q => by rw [if_neg q] at hx; obtain ⟨rfl, rfl, rfl, rfl, rfl, rfl, rfl⟩ := nxt_inj hx; exact kk)
        · exact k_icmp_lt C hj hd (fun q => by rw [if_pos q] at hx; obtain ⟨rfl, rfl, rfl, rfl, rfl, rfl, rfl⟩ := nxt_inj hx; exact kk) (fun q => by rw [if_neg q] at hx; obtain ⟨rfl, rfl, rfl, rfl, rfl, rfl, rfl⟩ := nxt_inj hx; exact kk)
        · exact k_icmp_ge C hj hd (fun q => by rw [if_pos q] at hx; obtain ⟨rfl, rfl, rfl, rfl, rfl, rfl, rfl⟩ := nxt_inj hx; exact kk) (fun q => by rw [if_neg q] at hx; obtain ⟨rfl, rfl, rfl, rfl, rfl, rfl, rfl⟩ := nxt_inj hx; exact kk)
        · exact k_icmp_gt C hj hd (fun q => by rw [if_pos q] at hx; obtain ⟨rfl, rfl, rfl, rfl, rfl, rfl, rfl⟩ := nxt_inj hx; exact kk) (fun q => by rw [if_neg q] at hx; obtain ⟨rfl, rfl, rfl, rfl, rfl, rfl, rfl⟩ := nxt_inj hx; exact kk)
        · exact k_icmp_le C hj hd (fun q => by rw [if_pos q] at hx; obtain ⟨rfl, rfl, rfl, rfl, rfl, rfl, rfl⟩ := nxt_inj hx; exact kk) (fun q => by rw [if_neg q] at hx; obtain ⟨rfl, rfl, rfl, rfl, rfl, rfl, rfl⟩ := nxt_inj hx; exact kk)
      · cases hx
    · cases hx
  · split at hx
    · obtain ⟨rfl, rfl, rfl, rfl, rfl, rfl, rfl⟩ := nxt_inj hx
      exact k_ifnull C hd kk
    · split at hx
      · rename_i hj
        obtain ⟨rfl, rfl, rfl, rfl, rfl, rfl, rfl⟩ := nxt_inj hx
        exact k_ifnullN C hj hd kk
      · cases hx
    · cases hx
  · split at hx
    · split at hx
      · rename_i hj
        obtain ⟨rfl, rfl, rfl, rfl, rfl, rfl, rfl⟩ := nxt_inj hx
        exact k_ifnonnull C hj hd kk
      · cases hx
    · obtain ⟨rfl, rfl, rfl, rfl, rfl, rfl, rfl⟩ := nxt_inj hx
      exact k_ifnonnullN C hd kk
    · cases hx
  · split at hx
    · rename_i hj
      obtain ⟨rfl, rfl, rfl, rfl, rfl, rfl, rfl⟩ := nxt_inj hx
      exact k_goto C hj hd kk
    · cases hx
  · split at hx
    · split at hx
      · rename_i ho
        split at hx
        · rename_i hj
          obtain ⟨rfl, rfl, rfl, rfl, rfl, rfl, rfl⟩ := nxt_inj hx
          exact k_table_out C ho hj hd kk
        · cases hx
      · rename_i ho
        split at hx
        · rename_i off hof
          split at hx
          · rename_i hj
            obtain ⟨rfl, rfl, rfl, rfl, rfl, rfl, rfl⟩ := nxt_inj hx
            exact k_table_in C ho hof hj hd kk
          · cases hx
        · cases hx
    · cases hx
  · split at hx
    · split at hx
      · rename_i hj
        obtain ⟨rfl, rfl, rfl, rfl, rfl, rfl, rfl⟩ := nxt_inj hx
        exact k_lookup C hj.1 hj.2 hd kk
      · cases hx
    · cases hx
  · split at hx
    · rename_i j hv
      obtain ⟨rfl, rfl, rfl, rfl, rfl, rfl, rfl⟩ := nxt_inj hx
      exact k_getstatic C hv hd kk
    · cases hx
  · split at hx
    · rename_i hl
      split at hx
      · rename_i ha
        obtain ⟨rfl, rfl, rfl, rfl, rfl, rfl, rfl⟩ := nxt_inj hx
        exact k_getfield C hl ha hd kk
      · cases hx
    · cases hx
  · split at hx
    · rename_i hl
      split at hx
      · rename_i ha
        split at hx
        · rename_i hp
          split at hx
          · cases hx
          · rename_i h3
            obtain ⟨rfl, rfl, rfl, rfl, rfl, rfl, rfl⟩ := nxt_inj hx
            exact k_putfield C hl ha.1 ha.2.1 ha.2.2.1 ha.2.2.2 hp (fun q => Classical.byContradiction fun z => h3 ⟨q, z⟩) hd kk
        · cases hx
      · cases hx
    · cases hx
  · split at hx
    · split at hx
      · rename_i ha
        obtain ⟨rfl, rfl, rfl, rfl, rfl, rfl, rfl⟩ := nxt_inj hx
        exact k_alen C ha hd kk
      · cases hx
    · cases hx
  · split at hx
    · split at hx
      · rename_i ha
        obtain ⟨rfl, rfl, rfl, rfl, rfl, rfl, rfl⟩ := nxt_inj hx
        exact k_iaload C ha.1 ha.2 hd kk
      · cases hx
    · cases hx
  · split at hx
    · split at hx
      · rename_i ha
        obtain ⟨rfl, rfl, rfl, rfl, rfl, rfl, rfl⟩ := nxt_inj hx
        exact k_laload C ha.1 ha.2 hd kk
      · cases hx
    · cases hx
  · split at hx
    · split at hx
      · rename_i ha
        obtain ⟨rfl, rfl, rfl, rfl, rfl, rfl, rfl⟩ := nxt_inj hx
        exact k_baload C ha.1 ha.2 hd kk
      · cases hx
    · cases hx
  · split at hx
    · split at hx
      · rename_i ha
        obtain ⟨rfl, rfl, rfl, rfl, rfl, rfl, rfl⟩ := nxt_inj hx
        exact k_aaload C ha.1 ha.2 hd kk
      · cases hx
    · cases hx
  · split at hx
    · split at hx
      · rename_i ha
        obtain ⟨rfl, rfl, rfl, rfl, rfl, rfl, rfl⟩ := nxt_inj hx
        exact k_iastore C ha.1 ha.2 hd kk
      · cases hx
    · cases hx
  · split at hx
    · split at hx
      · rename_i ha
        obtain ⟨rfl, rfl, rfl, rfl, rfl, rfl, rfl⟩ := nxt_inj hx
        exact k_lastore C ha.1 ha.2 hd kk
      · cases hx
    · cases hx
  · split at hx
    · split at hx
      · rename_i ha
        obtain ⟨rfl, rfl, rfl, rfl, rfl, rfl, rfl⟩ := nxt_inj hx
        exact k_aastore C ha.1 ha.2.1 ha.2.2 hd kk
      · cases hx
    · cases hx
  · split at hx
    · split at hx
      · rename_i hn
        split at hx
        · obtain ⟨rfl, rfl, rfl, rfl, rfl, rfl, rfl⟩ := nxt_inj hx
          exact k_newI C hn.1 hn.2.1 hn.2.2 hr1 hr2 hd kk
        · obtain ⟨rfl, rfl, rfl, rfl, rfl, rfl, rfl⟩ := nxt_inj hx
          exact k_newL C hn.1 hn.2.1 hn.2.2 hr1 hr2 hd kk
        · cases hx
      · cases hx
    · cases hx
  · split at hx
    · split at hx
      · rename_i hn
        obtain ⟨rfl, rfl, rfl, rfl, rfl, rfl, rfl⟩ := nxt_inj hx
        exact k_newB C hn.1 hn.2.1 hn.2.2.1 hn.2.2.2 hr1 hr2 hd kk
      · cases hx
    · cases hx
  · split at hx
    · split at hx <;> cases hx
    · split at hx
      · rename_i hl
        split at hx
        · rename_i h0
          obtain ⟨rfl, rfl, rfl, rfl, rfl, rfl, rfl⟩ := nxt_inj hx
          exact k_new C h0.1 hl h0.2 hr1 hr2 hd kk
        · cases hx
      · cases hx
  · unfold exCall at hx
    split at hx
    · cases hx
    · rename_i hl
      first | cases hx | (split at hx <;> first | cases hx | (split at hx <;> cases hx))
    · rename_i hl
      first | cases hx | (split at hx <;> first | cases hx | (split at hx <;> cases hx))
    · rename_i hl
      first | cases hx | (split at hx <;> first | cases hx | (split at hx <;> cases hx))
    · rename_i hl
      split at hx
      · split at hx
        · rename_i hq
          cases hx
          exact k_ord C hl hq.1 hq.2.1 hq.2.2 hr1 hr2 hd kk
        · cases hx
      · cases hx
    · split at hx <;> cases hx
  · unfold exCall at hx
    split at hx
    · cases hx
    · rename_i hl
      first | cases hx | (split at hx <;> first | cases hx | (split at hx <;> cases hx))
    · rename_i hl
      split at hx
      · split at hx
        · rename_i hq
          cases hx
          exact k_max C hl hq.1 hq.2 hr1 hr2 hd kk
        · cases hx
      · cases hx
    · rename_i hl
      split at hx
      · split at hx
        · rename_i hq
          cases hx
          exact k_min C hl hq.1 hq.2 hr1 hr2 hd kk
        · cases hx
      · cases hx
    · rename_i hl
      first | cases hx | (split at hx <;> first | cases hx | (split at hx <;> cases hx))
    · split at hx <;> cases hx
  · unfold exCall at hx
    split at hx
    · cases hx
    · rename_i hl
      split at hx
      · split at hx
        · rename_i hq
          cases hx
          exact k_objInit C hl hq.1 hq.2 hd kk
        · cases hx
      · cases hx
    · rename_i hl
      first | cases hx | (split at hx <;> first | cases hx | (split at hx <;> cases hx))
    · rename_i hl
      first | cases hx | (split at hx <;> first | cases hx | (split at hx <;> cases hx))
    · rename_i hl
      first | cases hx | (split at hx <;> first | cases hx | (split at hx <;> cases hx))
    · split at hx <;> cases hx
  · split at hx
    · split at hx <;> cases hx
    · cases hx
  · split at hx
    · split at hx <;> cases hx
    · cases hx
  · split at hx
    · split at hx <;> cases hx
    · split at hx <;> cases hx
    · cases hx
  · split at hx
    · split at hx <;> cases hx
    · cases hx
  · cases hx
end SN12
