set_option maxRecDepth 100000 in
theorem lk400 : ∀ pc, ev_kb MM "LeftAnswersModel" pc (.getfield 410) 11 46 = true := kb_getf (by decide +kernel) gw475
set_option maxRecDepth 100000 in
theorem lk401 : ∀ pc, ev_kb MM "LeftAnswersModel" pc (.getfield 154) 11 36 = true := kb_getf (by decide +kernel) gw418
set_option maxRecDepth 100000 in
theorem lk402 : ∀ pc, ev_kb MM "java/lang/Integer" pc (.ldc_w 265) 1431655765 0 = true := kb_ldcw gw557
set_option maxRecDepth 100000 in
theorem lk403 : ∀ pc, ev_kb MM "java/lang/Integer" pc (.ldc_w 266) 858993459 0 = true := kb_ldcw gw558
set_option maxRecDepth 100000 in
theorem lk404 : ∀ pc, ev_kb MM "java/lang/Integer" pc (.ldc_w 267) 252645135 0 = true := kb_ldcw gw559
