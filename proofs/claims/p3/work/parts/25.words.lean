/-! WORDS: the tables' words by number. -/
def z_tb (i : Nat) : Option Cond := bif Nat.blt i 166 then (k2_sels lw_privs)[i]? else (bif Nat.blt i 406 then tables_1_1[i - 166]? else (bif Nat.blt i 646 then tables_1_2[i - 406]? else (bif Nat.blt i 886 then tables_1_3[i - 646]? else (bif Nat.blt i 1126 then tables_1_4[i - 886]? else (bif Nat.blt i 1366 then tables_1_5[i - 1126]? else (bif Nat.blt i 1606 then tables_1_6[i - 1366]? else (bif Nat.blt i 1846 then tables_1_7[i - 1606]? else (bif Nat.blt i 1928 then tables_1_8[i - 1846]? else (none)))))))))
theorem z_tb_mem {i : Nat} {w : Cond} (h : z_tb i = some w) : w ∈ lw_tbl := by
  unfold z_tb at h
  unfold lw_tbl tables_1
  cases h0 : Nat.blt i 166 with
  | true => rw [h0] at h; exact List.mem_append_left _ (List.mem_of_getElem? h)
  | false =>
    rw [h0] at h
    refine List.mem_append_right _ ?_
    cases h1 : Nat.blt i 406 with
    | true => rw [h1] at h; exact List.mem_append_left _ (List.mem_of_getElem? h)
    | false =>
      rw [h1] at h
      refine List.mem_append_right _ ?_
      cases h2 : Nat.blt i 646 with
      | true => rw [h2] at h; exact List.mem_append_left _ (List.mem_of_getElem? h)
      | false =>
        rw [h2] at h
        refine List.mem_append_right _ ?_
        cases h3 : Nat.blt i 886 with
        | true => rw [h3] at h; exact List.mem_append_left _ (List.mem_of_getElem? h)
        | false =>
          rw [h3] at h
          refine List.mem_append_right _ ?_
          cases h4 : Nat.blt i 1126 with
          | true => rw [h4] at h; exact List.mem_append_left _ (List.mem_of_getElem? h)
          | false =>
            rw [h4] at h
            refine List.mem_append_right _ ?_
            cases h5 : Nat.blt i 1366 with
            | true => rw [h5] at h; exact List.mem_append_left _ (List.mem_of_getElem? h)
            | false =>
              rw [h5] at h
              refine List.mem_append_right _ ?_
              cases h6 : Nat.blt i 1606 with
              | true => rw [h6] at h; exact List.mem_append_left _ (List.mem_of_getElem? h)
              | false =>
                rw [h6] at h
                refine List.mem_append_right _ ?_
                cases h7 : Nat.blt i 1846 with
                | true => rw [h7] at h; exact List.mem_append_left _ (List.mem_of_getElem? h)
                | false =>
                  rw [h7] at h
                  refine List.mem_append_right _ ?_
                  cases h8 : Nat.blt i 1928 with
                  | true => rw [h8] at h; exact List.mem_of_getElem? h
                  | false => rw [h8] at h; cases h
def z_inP {α : Type} (p : α → Prop) : List α → Prop
  | [] => True
  | x :: t => p x ∧ z_inP p t
def z_allP {α : Type} (f : Nat → α → Prop) : Nat → List (List α) → Prop
  | _, [] => True
  | o, l :: t => z_inP (f o) l ∧ z_allP f (o + 1) t
theorem z_in0 {α : Type} {p : α → Prop} : z_inP p [] := trivial
theorem z_in1 {α : Type} {p : α → Prop} {x : α} {t : List α} (h : p x) (h2 : z_inP p t) : z_inP p (x :: t) := ⟨h, h2⟩
theorem z_al0 {α : Type} {f : Nat → α → Prop} {o : Nat} : z_allP f o [] := trivial
theorem z_al1 {α : Type} {f : Nat → α → Prop} {o : Nat} {l : List α} {t : List (List α)} (h : z_inP (f o) l) (h2 : z_allP f (o + 1) t) : z_allP f o (l :: t) := ⟨h, h2⟩
theorem z_inP_at {α : Type} {p : α → Prop} {x : α} : ∀ {l : List α}, z_inP p l → x ∈ l → p x
  | [], _, hx => by cases hx
  | y :: t, h, hx => by
    rcases List.mem_cons.mp hx with rfl | hx
    · exact h.1
    · exact z_inP_at h.2 hx
theorem z_allP_at {α : Type} {f : Nat → α → Prop} {x : α} : ∀ {ls : List (List α)} {o n : Nat}, z_allP f o ls → x ∈ z_nth ls n → f (o + n) x
  | [], _, _, _, h => by cases h
  | l :: t, o, 0, h, hx => z_inP_at h.1 hx
  | l :: t, o, n + 1, h, hx => by
    have := z_allP_at (o := o + 1) (n := n) h.2 hx
    rw [show o + (n + 1) = o + 1 + n by omega]
    exact this
