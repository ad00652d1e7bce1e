theorem d_law_law_436 : decode b_law_law 436 = .ok (.ireturn, 1) := by decide +kernel
theorem d_law_law_437 : decode b_law_law 437 = .ok (.aload_n 1, 1) := by decide +kernel
theorem d_law_law_438 : decode b_law_law 438 = .ok (.aload_n 0, 1) := by decide +kernel
theorem d_law_law_439 : decode b_law_law 439 = .ok (.iload_n 3, 1) := by decide +kernel
theorem d_law_law_440 : decode b_law_law 440 = .ok (.iconst 1, 1) := by decide +kernel
theorem d_law_law_441 : decode b_law_law 441 = .ok (.iadd, 1) := by decide +kernel
theorem d_law_law_442 : decode b_law_law 442 = .ok (.iaload, 1) := by decide +kernel
theorem d_law_law_443 : decode b_law_law 443 = .ok (.aload_n 0, 1) := by decide +kernel
theorem d_law_law_444 : decode b_law_law 444 = .ok (.iload_n 3, 1) := by decide +kernel
theorem d_law_law_445 : decode b_law_law 445 = .ok (.iconst 2, 1) := by decide +kernel
theorem d_law_law_446 : decode b_law_law 446 = .ok (.iadd, 1) := by decide +kernel
theorem d_law_law_447 : decode b_law_law 447 = .ok (.iaload, 1) := by decide +kernel
theorem d_law_law_448 : decode b_law_law 448 = .ok (.invokevirtual 82, 3) := by decide +kernel
theorem d_law_law_451 : decode b_law_law 451 = .ok (.aload_n 2, 1) := by decide +kernel
theorem d_law_law_452 : decode b_law_law 452 = .ok (.aload_n 0, 1) := by decide +kernel
theorem d_law_law_453 : decode b_law_law 453 = .ok (.iload_n 3, 1) := by decide +kernel
theorem d_law_law_454 : decode b_law_law 454 = .ok (.iconst 1, 1) := by decide +kernel
theorem d_law_law_455 : decode b_law_law 455 = .ok (.iadd, 1) := by decide +kernel
theorem d_law_law_456 : decode b_law_law 456 = .ok (.iaload, 1) := by decide +kernel
theorem d_law_law_457 : decode b_law_law 457 = .ok (.aload_n 0, 1) := by decide +kernel
theorem d_law_law_458 : decode b_law_law 458 = .ok (.iload_n 3, 1) := by decide +kernel
theorem d_law_law_459 : decode b_law_law 459 = .ok (.iconst 2, 1) := by decide +kernel
theorem d_law_law_460 : decode b_law_law 460 = .ok (.iadd, 1) := by decide +kernel
theorem d_law_law_461 : decode b_law_law 461 = .ok (.iaload, 1) := by decide +kernel
theorem d_law_law_462 : decode b_law_law 462 = .ok (.invokevirtual 85, 3) := by decide +kernel
theorem d_law_law_465 : decode b_law_law 465 = .ok (.if_icmp .eq 5, 3) := by decide +kernel
theorem d_law_law_468 : decode b_law_law 468 = .ok (.iconst 0, 1) := by decide +kernel
theorem d_law_law_469 : decode b_law_law 469 = .ok (.ireturn, 1) := by decide +kernel
theorem d_law_law_470 : decode b_law_law 470 = .ok (.iinc 3 3, 3) := by decide +kernel
theorem d_law_law_473 : decode b_law_law 473 = .ok (.goto (-455), 3) := by decide +kernel
theorem d_law_law_476 : decode b_law_law 476 = .ok (.iconst 1, 1) := by decide +kernel
theorem d_law_law_477 : decode b_law_law 477 = .ok (.ireturn, 1) := by decide +kernel
